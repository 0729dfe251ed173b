theorem j_eqLA {E : jx_E} {l : Launch} {cd : ByteArray} {nL : Nat} {ret : Option FieldType} {own : String} {ini : Bool} {Rm : Room} {mc ms : Nat} {Q : jx_Q} {cells slots n : Nat} {kd : jx_K} {R : jx_R} {I : jx_I} {pc : Nat} {a b c : Value} {x x' y y' z z' : Int32} {w : List (Option Value)} {st : List Value} (e1 : x' = x) (e2 : y' = y) (e3 : z' = z) (k : jx_J E l cd nL ret own ini Rm mc ms Q cells slots n kd R I pc (some a :: some b :: some c :: some (.int x') :: some (.int y') :: some (.int z') :: w) st) : jx_J E l cd nL ret own ini Rm mc ms Q cells slots n kd R I pc (some a :: some b :: some c :: some (.int x) :: some (.int y) :: some (.int z) :: w) st := by
  subst e1; subst e2; subst e3; exact k
set_option maxRecDepth 100000 in
set_option maxHeartbeats 4000000 in
theorem ag_11_00 {E : jx_E} {l : Launch} {n : Nat} {kd : jx_K} {R : jx_R} {d : Nat} {v p : Nat → Int32} {q B k T S N : Nat} {i a : Nat} {I : jx_I} {y9 y10 y11 y12 : Option Value} (hV : VI v k T S N) (hN : N ≤ B) (hB : B + 100000 < 2147483000) (hP : PI v k T) (hi : i < k) (hka : kd a = (7, 5)) (hda : d + 344 ≤ a) (ih : ∀ (j : Nat) (I : jx_I) (y9 y10 y11 y12 : Option Value), i < j → j ≤ k → DK kd R I d v p q B → (∀ w, w < 5 → I a w = cntF v (w + 1) j) → jx_J E l cL_agrees 13 (some .boolean) RL false rmA 1 5 (fun v' n' kd' R' I' => v' = some (.int (nI 1)) ∧ LZ kd' R' I' d k T B) 1 5 n kd R I 25 [some (.ref d), some (.int (nI k)), some (.ref a), some (.int (cntF v 0 j)), some (.int (cntF v 6 j)), some (.int (cntF v 7 j)), some (.int (sm v j)), some (.int (nI T)), some (.int (nI j)), y9, y10, y11, y12] []) (hD : DK kd R I d v p q B) (hA : ∀ w, w < 5 → I a w = cntF v (w + 1) i) (h9 : v (176 + 56 * i + 9) = nI 1) (h10 : v (176 + 56 * i + 10) = nI 1) (hst : sStand v i = true) (hwf : WF v i 0) (hsh : v (176 + 56 * i + 13) ≤ 0) : jx_J E l cL_agrees 13 (some .boolean) RL false rmA 1 5 (fun v' n' kd' R' I' => v' = some (.int (nI 1)) ∧ LZ kd' R' I' d k T B) 1 5 n kd R I 25 [some (.ref d), some (.int (nI k)), some (.ref a), some (.int (cntF v 0 i)), some (.int (cntF v 6 i)), some (.int (cntF v 7 i)), some (.int (sm v i)), some (.int (nI T)), some (.int (nI i)), y9, y10, y11, y12] [] := by
  have h16 := hV.k16
  have Kd := hD.k5
  have hT := hV.tl
  obtain ⟨hp1, hp2⟩ := hP.1 i hi
  obtain ⟨⟨c, hc, e11⟩, aa, ll, haa, hll, e14, e12, hal0, hz⟩ := hp1
  have h14 : v (176 + 56 * i + 14) = 0 ↔ v (176 + 56 * i + 12) = 0 := by
    rw [e14, e12]
    have x1 := nI_eq (show aa < 2 ^ 31 from by omega) (show 0 < 2 ^ 31 from by omega)
    have x2 := nI_eq (show ll < 2 ^ 31 from by omega) (show 0 < 2 ^ 31 from by omega)
    exact x1.trans (hal0.trans x2.symm)
  have hal : v (176 + 56 * i + 14) = 0 → v (176 + 56 * i + 9) = nI 0 ∧ v (176 + 56 * i + 10) = nI 1 := fun z => hz ((nI_eq (show aa < 2 ^ 31 from by omega) (show 0 < 2 ^ 31 from by omega)).mp (e14.symm.trans z))
  have hgtT : ¬ v (176 + 56 * i + 13) = 0 → ¬ v (176 + 56 * i + 13) ≤ nI T := by
    intro z
    rcases hp2.2 with e | ⟨u, hu, hu2, e⟩
    · exact absurd e z
    · rw [e]; exact nI_ge hu (by omega)
  have hw0 := hwf.1
  refine j_iload (pc' := 27) dL_agrees_25 rfl rfl ?_
  refine j_iload_n (pc' := 28) dL_agrees_27 rfl rfl ?_
  refine j_icmpF_ge (pc' := 31) (tgt := 462) (nI_ge hi (by omega)) dL_agrees_28 (by decide) rfl ?_
  refine j_aload_n (pc' := 32) dL_agrees_31 rfl rfl ?_
  refine j_iload (pc' := 34) dL_agrees_32 rfl rfl ?_
  refine j_bipush (pc' := 36) (v := nI 15) dL_agrees_34 rfl rfl ?_
  refine j_cVi (pc' := 39) m_L_31 (p_point hD hV (by omega) (by omega) (a := nI 0) ((fPt_15 hV.z h16 hi).trans hw0)) Kd (by decide) rfl rfl rfl ⟨Nat.le_of_ble_eq_true rfl, Nat.le_of_ble_eq_true rfl⟩ ⟨Nat.le_of_ble_eq_true rfl, Nat.le_of_ble_eq_true rfl⟩ (Nat.le_of_ble_eq_true rfl) dL_agrees_36 rfl (fun x1 J1 hq => ?_)
  obtain ⟨hx, hI⟩ := hq
  rw [hx, hI]
  refine j_istore (pc' := 41) (lv' := [_, _, _, _, _, _, _, _, _, _, _, _, _]) dL_agrees_39 rfl (by decide) rfl ?_
  refine j_aload_n (pc' := 42) dL_agrees_41 rfl rfl ?_
  refine j_iload (pc' := 44) dL_agrees_42 rfl rfl ?_
  refine j_bipush (pc' := 46) (v := nI 9) dL_agrees_44 rfl rfl ?_
  refine j_cVi (pc' := 49) m_L_31 (p_point hD hV (by omega) (by omega) (a := nI 1) ((fPt_w hV.z h16 hi (show 9 < 15 from by omega)).trans (h9))) Kd (by decide) rfl rfl rfl ⟨Nat.le_of_ble_eq_true rfl, Nat.le_of_ble_eq_true rfl⟩ ⟨Nat.le_of_ble_eq_true rfl, Nat.le_of_ble_eq_true rfl⟩ (Nat.le_of_ble_eq_true rfl) dL_agrees_46 rfl (fun x1 J1 hq => ?_)
  obtain ⟨hx, hI⟩ := hq
  rw [hx, hI]
  refine j_iconst (pc' := 50) (v := nI 1) dL_agrees_49 rfl rfl ?_
  refine j_icmpF_ne (pc' := 53) (tgt := 57) (by decide) dL_agrees_50 (by decide) rfl ?_
  refine j_iconst (pc' := 54) (v := nI 1) dL_agrees_53 rfl rfl ?_
  refine j_goto (tgt := 58) dL_agrees_54 (by decide) ?_
  refine j_istore (pc' := 60) (lv' := [_, _, _, _, _, _, _, _, _, _, _, _, _]) dL_agrees_58 rfl (by decide) rfl ?_
  refine j_aload_n (pc' := 61) dL_agrees_60 rfl rfl ?_
  refine j_iload (pc' := 63) dL_agrees_61 rfl rfl ?_
  refine j_bipush (pc' := 65) (v := nI 10) dL_agrees_63 rfl rfl ?_
  refine j_cVi (pc' := 68) m_L_31 (p_point hD hV (by omega) (by omega) (a := nI 1) ((fPt_w hV.z h16 hi (show 10 < 15 from by omega)).trans (h10))) Kd (by decide) rfl rfl rfl ⟨Nat.le_of_ble_eq_true rfl, Nat.le_of_ble_eq_true rfl⟩ ⟨Nat.le_of_ble_eq_true rfl, Nat.le_of_ble_eq_true rfl⟩ (Nat.le_of_ble_eq_true rfl) dL_agrees_65 rfl (fun x1 J1 hq => ?_)
  obtain ⟨hx, hI⟩ := hq
  rw [hx, hI]
  refine j_iconst (pc' := 69) (v := nI 1) dL_agrees_68 rfl rfl ?_
  refine j_icmpF_ne (pc' := 72) (tgt := 76) (by decide) dL_agrees_69 (by decide) rfl ?_
  refine j_iconst (pc' := 73) (v := nI 1) dL_agrees_72 rfl rfl ?_
  refine j_goto (tgt := 77) dL_agrees_73 (by decide) ?_
  refine j_istore (pc' := 79) (lv' := [_, _, _, _, _, _, _, _, _, _, _, _, _]) dL_agrees_77 rfl (by decide) rfl ?_
  refine j_iload (pc' := 81) dL_agrees_79 rfl rfl ?_
  refine j_ifT_ne (tgt := 89) (by decide) dL_agrees_81 (by decide) ?_
  refine j_iconst (pc' := 90) (v := nI 1) dL_agrees_89 rfl rfl ?_
  refine j_goto (tgt := 94) dL_agrees_90 (by decide) ?_
  refine j_istore (pc' := 96) (lv' := [_, _, _, _, _, _, _, _, _, _, _, _, _]) dL_agrees_94 rfl (by decide) rfl ?_
  refine j_iload_n (pc' := 97) dL_agrees_96 rfl rfl ?_
  refine j_iload (pc' := 99) dL_agrees_97 rfl rfl ?_
  refine j_ifF_eq (pc' := 102) (tgt := 106) (by decide) dL_agrees_99 (by decide) rfl ?_
  refine j_iconst (pc' := 103) (v := nI 1) dL_agrees_102 rfl rfl ?_
  refine j_goto (tgt := 107) dL_agrees_103 (by decide) ?_
  refine j_iadd (pc' := 108) dL_agrees_107 rfl ?_
  refine j_istore_n (pc' := 109) (lv' := [_, _, _, _, _, _, _, _, _, _, _, _, _]) dL_agrees_108 rfl (by decide) rfl ?_
  refine j_iload (pc' := 111) dL_agrees_109 rfl rfl ?_
  refine j_aload_n (pc' := 112) dL_agrees_111 rfl rfl ?_
  refine j_iload (pc' := 114) dL_agrees_112 rfl rfl ?_
  refine j_bipush (pc' := 116) (v := nI 13) dL_agrees_114 rfl rfl ?_
  refine j_cVi (pc' := 119) m_L_31 (p_point hD hV (by omega) (by omega) (a := v (176 + 56 * i + 13)) ((fPt_w hV.z h16 hi (show 13 < 15 from by omega)))) Kd (by decide) rfl rfl rfl ⟨Nat.le_of_ble_eq_true rfl, Nat.le_of_ble_eq_true rfl⟩ ⟨Nat.le_of_ble_eq_true rfl, Nat.le_of_ble_eq_true rfl⟩ (Nat.le_of_ble_eq_true rfl) dL_agrees_116 rfl (fun x1 J1 hq => ?_)
  obtain ⟨hx, hI⟩ := hq
  rw [hx, hI]
  refine j_ifT_le (tgt := 126) (hsh) dL_agrees_119 (by decide) ?_
  refine j_iconst (pc' := 127) (v := nI 0) dL_agrees_126 rfl rfl ?_
  refine j_iadd (pc' := 128) dL_agrees_127 rfl ?_
  refine j_istore (pc' := 130) (lv' := [_, _, _, _, _, _, _, _, _, _, _, _, _]) dL_agrees_128 rfl (by decide) rfl ?_
  refine j_iload (pc' := 132) dL_agrees_130 rfl rfl ?_
  refine j_iload (pc' := 134) dL_agrees_132 rfl rfl ?_
  refine j_ifF_eq (pc' := 137) (tgt := 141) (by decide) dL_agrees_134 (by decide) rfl ?_
  refine j_iconst (pc' := 138) (v := nI 0) dL_agrees_137 rfl rfl ?_
  refine j_goto (tgt := 142) dL_agrees_138 (by decide) ?_
  refine j_iadd (pc' := 143) dL_agrees_142 rfl ?_
  refine j_istore (pc' := 145) (lv' := [_, _, _, _, _, _, _, _, _, _, _, _, _]) dL_agrees_143 rfl (by decide) rfl ?_
  refine j_iload (pc' := 147) dL_agrees_145 rfl rfl ?_
  refine j_aload_n (pc' := 148) dL_agrees_147 rfl rfl ?_
  refine j_iload (pc' := 150) dL_agrees_148 rfl rfl ?_
  refine j_bipush (pc' := 152) (v := nI 14) dL_agrees_150 rfl rfl ?_
  refine j_cVi (pc' := 155) m_L_31 (p_point hD hV (by omega) (by omega) (a := v (176 + 56 * i + 14)) ((fPt_w hV.z h16 hi (show 14 < 15 from by omega)))) Kd (by decide) rfl rfl rfl ⟨Nat.le_of_ble_eq_true rfl, Nat.le_of_ble_eq_true rfl⟩ ⟨Nat.le_of_ble_eq_true rfl, Nat.le_of_ble_eq_true rfl⟩ (Nat.le_of_ble_eq_true rfl) dL_agrees_152 rfl (fun x1 J1 hq => ?_)
  obtain ⟨hx, hI⟩ := hq
  rw [hx, hI]
  refine j_iadd (pc' := 156) dL_agrees_155 rfl ?_
  refine j_istore (pc' := 158) (lv' := [_, _, _, _, _, _, _, _, _, _, _, _, _]) dL_agrees_156 rfl (by decide) rfl ?_
  refine j_iload (pc' := 160) dL_agrees_158 rfl rfl ?_
  refine j_ifF_eq (pc' := 163) (tgt := 177) (by decide) dL_agrees_160 (by decide) rfl ?_
  refine j_iload (pc' := 165) dL_agrees_163 rfl rfl ?_
  refine j_ifF_lt (pc' := 168) (tgt := 185) (by decide) dL_agrees_165 (by decide) rfl ?_
  refine j_iload (pc' := 170) dL_agrees_168 rfl rfl ?_
  refine j_iconst (pc' := 171) (v := nI 4) dL_agrees_170 rfl rfl ?_
  refine j_icmpT_le (tgt := 187) (by decide) dL_agrees_171 (by decide) ?_
  refine j_aload_n (pc' := 188) dL_agrees_187 rfl rfl ?_
  refine j_iload (pc' := 190) dL_agrees_188 rfl rfl ?_
  refine j_ifT_ge (tgt := 197) (by decide) dL_agrees_190 (by decide) ?_
  refine j_iload (pc' := 199) dL_agrees_197 rfl rfl ?_
  refine j_dup2 (pc' := 200) dL_agrees_199 rfl rfl rfl ?_
  refine j_ialdv (pc' := 201) hka rfl (by decide) (by decide) (hA _ (by decide)) dL_agrees_200 rfl ?_
  refine j_iload (pc' := 203) dL_agrees_201 rfl rfl ?_
  refine j_ifF_eq (pc' := 206) (tgt := 210) (by decide) dL_agrees_203 (by decide) rfl ?_
  refine j_iconst (pc' := 207) (v := nI 1) dL_agrees_206 rfl rfl ?_
  refine j_goto (tgt := 211) dL_agrees_207 (by decide) ?_
  refine j_iadd (pc' := 212) dL_agrees_211 rfl ?_
  refine j_iast (pc' := 213) hka rfl (by decide) (by decide) dL_agrees_212 rfl ?_
  have hD2 := hD.upA (j := 0) (x := cntF v 1 i + nI 1) hda
  have hA2 := why_up (a := a) (by decide) hw0 hA
  change jx_J E l cL_agrees 13 (some .boolean) RL false rmA 1 5 (fun v' n' kd' R' I' => v' = some (.int (nI 1)) ∧ LZ kd' R' I' d k T B) 1 5 n kd R (jx_up I a 0 (cntF v 1 i + nI 1)) 213 _ _
  generalize jx_up I a 0 (cntF v 1 i + nI 1) = I2 at hD2 hA2 ⊢
  have hD := hD2
  refine j_aload_n (pc' := 214) dL_agrees_213 rfl rfl ?_
  refine j_iload (pc' := 216) dL_agrees_214 rfl rfl ?_
  refine j_iconst (pc' := 217) (v := nI 5) dL_agrees_216 rfl rfl ?_
  refine j_cVi (pc' := 220) m_L_31 (p_point hD hV (by omega) (by omega) (a := v (176 + 56 * i + 5)) ((fPt_w hV.z h16 hi (show 5 < 15 from by omega)))) Kd (by decide) rfl rfl rfl ⟨Nat.le_of_ble_eq_true rfl, Nat.le_of_ble_eq_true rfl⟩ ⟨Nat.le_of_ble_eq_true rfl, Nat.le_of_ble_eq_true rfl⟩ (Nat.le_of_ble_eq_true rfl) dL_agrees_217 rfl (fun x1 J1 hq => ?_)
  obtain ⟨hx, hI⟩ := hq
  rw [hx, hI]
  refine j_iconst (pc' := 221) (v := nI 1) dL_agrees_220 rfl rfl ?_
  refine jx_cut (B := jx_J E l cL_agrees 13 (some .boolean) RL false rmA 1 5 (fun v' n' kd' R' I' => v' = some (.int (nI 1)) ∧ LZ kd' R' I' d k T B) 1 5 n kd R I2 240 [some (.ref d), some (.int (nI k)), some (.ref a), some (.int ((cntF v 0 i) + (nI 1))), some (.int ((cntF v 6 i) + (nI 0))), some (.int ((cntF v 7 i) + (nI 0))), some (.int ((sm v i) + (v (176 + 56 * i + 14)))), some (.int (nI T)), some (.int (nI i)), some (.int (nI 0)), some (.int (nI 1)), some (.int (nI 1)), some (.int (nI 1))] []) (fun kk => ?_) ?_
  ·
    refine j_icmp_ne (pc' := 224) (tgt := 240) dL_agrees_221 rfl (by decide) (fun c221 => ?_) (fun c221 => ?_)
    ·
      exact kk
    ·
      refine j_iload (pc' := 226) dL_agrees_224 rfl rfl ?_
      refine j_ifF_gt (pc' := 229) (tgt := 348) (by decide) dL_agrees_226 (by decide) rfl ?_
      refine j_aload_n (pc' := 230) dL_agrees_229 rfl rfl ?_
      refine j_iload (pc' := 232) dL_agrees_230 rfl rfl ?_
      refine j_bipush (pc' := 234) (v := nI 13) dL_agrees_232 rfl rfl ?_
      refine j_cVi (pc' := 237) m_L_31 (p_point hD hV (by omega) (by omega) (a := v (176 + 56 * i + 13)) ((fPt_w hV.z h16 hi (show 13 < 15 from by omega)))) Kd (by decide) rfl rfl rfl ⟨Nat.le_of_ble_eq_true rfl, Nat.le_of_ble_eq_true rfl⟩ ⟨Nat.le_of_ble_eq_true rfl, Nat.le_of_ble_eq_true rfl⟩ (Nat.le_of_ble_eq_true rfl) dL_agrees_234 rfl (fun x1 J1 hq => ?_)
      obtain ⟨hx, hI⟩ := hq
      rw [hx, hI]
      refine j_ifF_ne (pc' := 240) (tgt := 348) (hp2.1 c221) dL_agrees_237 (by decide) rfl ?_
      exact kk
  ·
    refine j_aload_n (pc' := 241) dL_agrees_240 rfl rfl ?_
    refine j_iload (pc' := 243) dL_agrees_241 rfl rfl ?_
    refine j_bipush (pc' := 245) (v := nI 13) dL_agrees_243 rfl rfl ?_
    refine j_cVi (pc' := 248) m_L_31 (p_point hD hV (by omega) (by omega) (a := v (176 + 56 * i + 13)) ((fPt_w hV.z h16 hi (show 13 < 15 from by omega)))) Kd (by decide) rfl rfl rfl ⟨Nat.le_of_ble_eq_true rfl, Nat.le_of_ble_eq_true rfl⟩ ⟨Nat.le_of_ble_eq_true rfl, Nat.le_of_ble_eq_true rfl⟩ (Nat.le_of_ble_eq_true rfl) dL_agrees_245 rfl (fun x1 J1 hq => ?_)
    obtain ⟨hx, hI⟩ := hq
    rw [hx, hI]
    refine jx_cut (B := jx_J E l cL_agrees 13 (some .boolean) RL false rmA 1 5 (fun v' n' kd' R' I' => v' = some (.int (nI 1)) ∧ LZ kd' R' I' d k T B) 1 5 n kd R I2 264 [some (.ref d), some (.int (nI k)), some (.ref a), some (.int ((cntF v 0 i) + (nI 1))), some (.int ((cntF v 6 i) + (nI 0))), some (.int ((cntF v 7 i) + (nI 0))), some (.int ((sm v i) + (v (176 + 56 * i + 14)))), some (.int (nI T)), some (.int (nI i)), some (.int (nI 0)), some (.int (nI 1)), some (.int (nI 1)), some (.int (nI 1))] []) (fun kk => ?_) ?_
    ·
      refine j_if_eq (pc' := 251) (tgt := 264) dL_agrees_248 rfl (by decide) (fun c248 => ?_) (fun c248 => ?_)
      ·
        exact kk
      ·
        refine j_aload_n (pc' := 252) dL_agrees_251 rfl rfl ?_
        refine j_iload (pc' := 254) dL_agrees_252 rfl rfl ?_
        refine j_bipush (pc' := 256) (v := nI 13) dL_agrees_254 rfl rfl ?_
        refine j_cVi (pc' := 259) m_L_31 (p_point hD hV (by omega) (by omega) (a := v (176 + 56 * i + 13)) ((fPt_w hV.z h16 hi (show 13 < 15 from by omega)))) Kd (by decide) rfl rfl rfl ⟨Nat.le_of_ble_eq_true rfl, Nat.le_of_ble_eq_true rfl⟩ ⟨Nat.le_of_ble_eq_true rfl, Nat.le_of_ble_eq_true rfl⟩ (Nat.le_of_ble_eq_true rfl) dL_agrees_256 rfl (fun x1 J1 hq => ?_)
        obtain ⟨hx, hI⟩ := hq
        rw [hx, hI]
        refine j_iload (pc' := 261) dL_agrees_259 rfl rfl ?_
        refine j_icmpF_le (pc' := 264) (tgt := 348) (hgtT c248) dL_agrees_261 (by decide) rfl ?_
        exact kk
    ·
      refine j_iload (pc' := 266) dL_agrees_264 rfl rfl ?_
      refine j_iconst (pc' := 267) (v := nI 1) dL_agrees_266 rfl rfl ?_
      refine j_icmpT_ne (tgt := 281) (by decide) dL_agrees_267 (by decide) ?_
      refine j_iload (pc' := 283) dL_agrees_281 rfl rfl ?_
      refine j_iconst (pc' := 284) (v := nI 2) dL_agrees_283 rfl rfl ?_
      refine j_icmpT_ne (tgt := 306) (by decide) dL_agrees_284 (by decide) ?_
      refine j_iload (pc' := 308) dL_agrees_306 rfl rfl ?_
      refine j_iconst (pc' := 309) (v := nI 3) dL_agrees_308 rfl rfl ?_
      refine j_icmpT_ne (tgt := 323) (by decide) dL_agrees_309 (by decide) ?_
      refine j_iload (pc' := 325) dL_agrees_323 rfl rfl ?_
      refine j_iconst (pc' := 326) (v := nI 4) dL_agrees_325 rfl rfl ?_
      refine j_icmpT_ne (tgt := 350) (by decide) dL_agrees_326 (by decide) ?_
      refine j_aload_n (pc' := 351) dL_agrees_350 rfl rfl ?_
      refine j_iload (pc' := 353) dL_agrees_351 rfl rfl ?_
      refine j_bipush (pc' := 355) (v := nI 11) dL_agrees_353 rfl rfl ?_
      refine j_cVi (pc' := 358) m_L_31 (p_point hD hV (by omega) (by omega) (a := v (176 + 56 * i + 11)) ((fPt_w hV.z h16 hi (show 11 < 15 from by omega)))) Kd (by decide) rfl rfl rfl ⟨Nat.le_of_ble_eq_true rfl, Nat.le_of_ble_eq_true rfl⟩ ⟨Nat.le_of_ble_eq_true rfl, Nat.le_of_ble_eq_true rfl⟩ (Nat.le_of_ble_eq_true rfl) dL_agrees_355 rfl (fun x1 J1 hq => ?_)
      obtain ⟨hx, hI⟩ := hq
      rw [hx, hI]
      refine j_aload_n (pc' := 359) dL_agrees_358 rfl rfl ?_
      refine j_iload (pc' := 361) dL_agrees_359 rfl rfl ?_
      refine j_iload (pc' := 363) dL_agrees_361 rfl rfl ?_
      refine j_ifF_eq (pc' := 366) (tgt := 370) (by decide) dL_agrees_363 (by decide) rfl ?_
      refine j_iconst (pc' := 367) (v := nI 4) dL_agrees_366 rfl rfl ?_
      refine j_goto (tgt := 371) dL_agrees_367 (by decide) ?_
      refine j_cVi (pc' := 374) m_L_31 (p_point hD hV (by omega) (by omega) (a := v (176 + 56 * i + 4)) ((fPt_w hV.z h16 hi (show 4 < 15 from by omega)))) Kd (by decide) rfl rfl rfl ⟨Nat.le_of_ble_eq_true rfl, Nat.le_of_ble_eq_true rfl⟩ ⟨Nat.le_of_ble_eq_true rfl, Nat.le_of_ble_eq_true rfl⟩ (Nat.le_of_ble_eq_true rfl) dL_agrees_371 rfl (fun x1 J1 hq => ?_)
      obtain ⟨hx, hI⟩ := hq
      rw [hx, hI]
      refine jx_cut (B := jx_J E l cL_agrees 13 (some .boolean) RL false rmA 1 5 (fun v' n' kd' R' I' => v' = some (.int (nI 1)) ∧ LZ kd' R' I' d k T B) 1 5 n kd R I2 390 [some (.ref d), some (.int (nI k)), some (.ref a), some (.int ((cntF v 0 i) + (nI 1))), some (.int ((cntF v 6 i) + (nI 0))), some (.int ((cntF v 7 i) + (nI 0))), some (.int ((sm v i) + (v (176 + 56 * i + 14)))), some (.int (nI T)), some (.int (nI i)), some (.int (nI 0)), some (.int (nI 1)), some (.int (nI 1)), some (.int (nI 1))] []) (fun kk => ?_) ?_
      ·
        refine j_icmp_le (pc' := 377) (tgt := 390) dL_agrees_374 rfl (by decide) (fun c374 => ?_) (fun c374 => ?_)
        ·
          exact kk
        ·
          refine j_aload_n (pc' := 378) dL_agrees_377 rfl rfl ?_
          refine j_iload (pc' := 380) dL_agrees_378 rfl rfl ?_
          refine j_bipush (pc' := 382) (v := nI 11) dL_agrees_380 rfl rfl ?_
          refine j_cVi (pc' := 385) m_L_31 (p_point hD hV (by omega) (by omega) (a := nI c) ((fPt_w hV.z h16 hi (show 11 < 15 from by omega)).trans (e11))) Kd (by decide) rfl rfl rfl ⟨Nat.le_of_ble_eq_true rfl, Nat.le_of_ble_eq_true rfl⟩ ⟨Nat.le_of_ble_eq_true rfl, Nat.le_of_ble_eq_true rfl⟩ (Nat.le_of_ble_eq_true rfl) dL_agrees_382 rfl (fun x1 J1 hq => ?_)
          obtain ⟨hx, hI⟩ := hq
          rw [hx, hI]
          refine j_bipush (pc' := 387) (v := nI 20) dL_agrees_385 rfl rfl ?_
          refine j_icmpF_gt (pc' := 390) (tgt := 454) (nI_nlt (by omega) (by omega)) dL_agrees_387 (by decide) rfl ?_
          exact kk
      ·
        refine j_aload_n (pc' := 391) dL_agrees_390 rfl rfl ?_
        refine j_iload (pc' := 393) dL_agrees_391 rfl rfl ?_
        refine j_bipush (pc' := 395) (v := nI 12) dL_agrees_393 rfl rfl ?_
        refine j_cVi (pc' := 398) m_L_31 (p_point hD hV (by omega) (by omega) (a := nI ll) ((fPt_w hV.z h16 hi (show 12 < 15 from by omega)).trans (e12))) Kd (by decide) rfl rfl rfl ⟨Nat.le_of_ble_eq_true rfl, Nat.le_of_ble_eq_true rfl⟩ ⟨Nat.le_of_ble_eq_true rfl, Nat.le_of_ble_eq_true rfl⟩ (Nat.le_of_ble_eq_true rfl) dL_agrees_395 rfl (fun x1 J1 hq => ?_)
        obtain ⟨hx, hI⟩ := hq
        rw [hx, hI]
        refine j_iload (pc' := 400) dL_agrees_398 rfl rfl ?_
        refine j_icmpF_gt (pc' := 403) (tgt := 454) (nI_nlt (by omega) (by omega)) dL_agrees_400 (by decide) rfl ?_
        refine j_aload_n (pc' := 404) dL_agrees_403 rfl rfl ?_
        refine j_iload (pc' := 406) dL_agrees_404 rfl rfl ?_
        refine j_bipush (pc' := 408) (v := nI 14) dL_agrees_406 rfl rfl ?_
        refine j_cVi (pc' := 411) m_L_31 (p_point hD hV (by omega) (by omega) (a := v (176 + 56 * i + 14)) ((fPt_w hV.z h16 hi (show 14 < 15 from by omega)))) Kd (by decide) rfl rfl rfl ⟨Nat.le_of_ble_eq_true rfl, Nat.le_of_ble_eq_true rfl⟩ ⟨Nat.le_of_ble_eq_true rfl, Nat.le_of_ble_eq_true rfl⟩ (Nat.le_of_ble_eq_true rfl) dL_agrees_408 rfl (fun x1 J1 hq => ?_)
        obtain ⟨hx, hI⟩ := hq
        rw [hx, hI]
        refine jx_cut (B := jx_J E l cL_agrees 13 (some .boolean) RL false rmA 1 5 (fun v' n' kd' R' I' => v' = some (.int (nI 1)) ∧ LZ kd' R' I' d k T B) 1 5 n kd R I2 438 [some (.ref d), some (.int (nI k)), some (.ref a), some (.int ((cntF v 0 i) + (nI 1))), some (.int ((cntF v 6 i) + (nI 0))), some (.int ((cntF v 7 i) + (nI 0))), some (.int ((sm v i) + (v (176 + 56 * i + 14)))), some (.int (nI T)), some (.int (nI i)), some (.int (nI 0)), some (.int (nI 1)), some (.int (nI 1)), some (.int (nI 1))] []) (fun kk => ?_) ?_
        ·
          refine j_if_ne (pc' := 414) (tgt := 418) dL_agrees_411 rfl (by decide) (fun c411 => ?_) (fun c411 => ?_)
          ·
            refine j_iconst (pc' := 419) (v := nI 0) dL_agrees_418 rfl rfl ?_
            refine j_aload_n (pc' := 420) dL_agrees_419 rfl rfl ?_
            refine j_iload (pc' := 422) dL_agrees_420 rfl rfl ?_
            refine j_bipush (pc' := 424) (v := nI 12) dL_agrees_422 rfl rfl ?_
            refine j_cVi (pc' := 427) m_L_31 (p_point hD hV (by omega) (by omega) (a := v (176 + 56 * i + 12)) ((fPt_w hV.z h16 hi (show 12 < 15 from by omega)))) Kd (by decide) rfl rfl rfl ⟨Nat.le_of_ble_eq_true rfl, Nat.le_of_ble_eq_true rfl⟩ ⟨Nat.le_of_ble_eq_true rfl, Nat.le_of_ble_eq_true rfl⟩ (Nat.le_of_ble_eq_true rfl) dL_agrees_424 rfl (fun x1 J1 hq => ?_)
            obtain ⟨hx, hI⟩ := hq
            rw [hx, hI]
            refine j_ifT_ne (tgt := 434) (fun z => c411 (h14.mpr z)) dL_agrees_427 (by decide) ?_
            refine j_iconst (pc' := 435) (v := nI 0) dL_agrees_434 rfl rfl ?_
            refine j_icmpF_ne (pc' := 438) (tgt := 454) (by decide) dL_agrees_435 (by decide) rfl ?_
            exact kk
          ·
            refine j_iconst (pc' := 415) (v := nI 1) dL_agrees_414 rfl rfl ?_
            refine j_goto (tgt := 419) dL_agrees_415 (by decide) ?_
            refine j_aload_n (pc' := 420) dL_agrees_419 rfl rfl ?_
            refine j_iload (pc' := 422) dL_agrees_420 rfl rfl ?_
            refine j_bipush (pc' := 424) (v := nI 12) dL_agrees_422 rfl rfl ?_
            refine j_cVi (pc' := 427) m_L_31 (p_point hD hV (by omega) (by omega) (a := v (176 + 56 * i + 12)) ((fPt_w hV.z h16 hi (show 12 < 15 from by omega)))) Kd (by decide) rfl rfl rfl ⟨Nat.le_of_ble_eq_true rfl, Nat.le_of_ble_eq_true rfl⟩ ⟨Nat.le_of_ble_eq_true rfl, Nat.le_of_ble_eq_true rfl⟩ (Nat.le_of_ble_eq_true rfl) dL_agrees_424 rfl (fun x1 J1 hq => ?_)
            obtain ⟨hx, hI⟩ := hq
            rw [hx, hI]
            refine j_ifF_ne (pc' := 430) (tgt := 434) (h14.mp c411) dL_agrees_427 (by decide) rfl ?_
            refine j_iconst (pc' := 431) (v := nI 1) dL_agrees_430 rfl rfl ?_
            refine j_goto (tgt := 435) dL_agrees_431 (by decide) ?_
            refine j_icmpF_ne (pc' := 438) (tgt := 454) (by decide) dL_agrees_435 (by decide) rfl ?_
            exact kk
        ·
          refine j_aload_n (pc' := 439) dL_agrees_438 rfl rfl ?_
          refine j_iload (pc' := 441) dL_agrees_439 rfl rfl ?_
          refine j_bipush (pc' := 443) (v := nI 14) dL_agrees_441 rfl rfl ?_
          refine j_cVi (pc' := 446) m_L_31 (p_point hD hV (by omega) (by omega) (a := v (176 + 56 * i + 14)) ((fPt_w hV.z h16 hi (show 14 < 15 from by omega)))) Kd (by decide) rfl rfl rfl ⟨Nat.le_of_ble_eq_true rfl, Nat.le_of_ble_eq_true rfl⟩ ⟨Nat.le_of_ble_eq_true rfl, Nat.le_of_ble_eq_true rfl⟩ (Nat.le_of_ble_eq_true rfl) dL_agrees_443 rfl (fun x1 J1 hq => ?_)
          obtain ⟨hx, hI⟩ := hq
          rw [hx, hI]
          refine jx_cut (B := jx_J E l cL_agrees 13 (some .boolean) RL false rmA 1 5 (fun v' n' kd' R' I' => v' = some (.int (nI 1)) ∧ LZ kd' R' I' d k T B) 1 5 n kd R I2 456 [some (.ref d), some (.int (nI k)), some (.ref a), some (.int ((cntF v 0 i) + (nI 1))), some (.int ((cntF v 6 i) + (nI 0))), some (.int ((cntF v 7 i) + (nI 0))), some (.int ((sm v i) + (v (176 + 56 * i + 14)))), some (.int (nI T)), some (.int (nI i)), some (.int (nI 0)), some (.int (nI 1)), some (.int (nI 1)), some (.int (nI 1))] []) (fun kk => ?_) ?_
          ·
            refine j_if_ne (pc' := 449) (tgt := 456) dL_agrees_446 rfl (by decide) (fun c446 => ?_) (fun c446 => ?_)
            ·
              exact kk
            ·
              exact absurd (hal c446) (by rw [h9, h10]; decide)
          ·
            refine j_iincN (pc' := 459) (lv' := [_, _, _, _, _, _, _, _, _, _, _, _, _]) dL_agrees_456 rfl rfl (by decide) rfl ?_
            refine j_goto (tgt := 25) dL_agrees_459 (by decide) ?_
            have e0 : cntF v 0 (i + 1) = cntF v 0 i + nI 1 := cnt_t (by rw [cC0]; exact hst)
            have e6 : cntF v 6 (i + 1) = cntF v 6 i + nI 0 := cnt_f (by rw [cC6]; exact decide_eq_false (fun z => z hsh))
            have e7 : cntF v 7 (i + 1) = cntF v 7 i + nI 0 := cnt_f (by rw [cC7]; exact decide_eq_false (by rw [h10]; decide))
            refine j_eqLA e0 e6 e7 ?_
            exact ih (i + 1) I2 _ _ _ _ (by omega) (by omega) hD hA2
set_option maxRecDepth 100000 in
set_option maxHeartbeats 4000000 in
theorem ag_11_11 {E : jx_E} {l : Launch} {n : Nat} {kd : jx_K} {R : jx_R} {d : Nat} {v p : Nat → Int32} {q B k T S N : Nat} {i a : Nat} {I : jx_I} {y9 y10 y11 y12 : Option Value} (hV : VI v k T S N) (hN : N ≤ B) (hB : B + 100000 < 2147483000) (hP : PI v k T) (hi : i < k) (hka : kd a = (7, 5)) (hda : d + 344 ≤ a) (ih : ∀ (j : Nat) (I : jx_I) (y9 y10 y11 y12 : Option Value), i < j → j ≤ k → DK kd R I d v p q B → (∀ w, w < 5 → I a w = cntF v (w + 1) j) → jx_J E l cL_agrees 13 (some .boolean) RL false rmA 1 5 (fun v' n' kd' R' I' => v' = some (.int (nI 1)) ∧ LZ kd' R' I' d k T B) 1 5 n kd R I 25 [some (.ref d), some (.int (nI k)), some (.ref a), some (.int (cntF v 0 j)), some (.int (cntF v 6 j)), some (.int (cntF v 7 j)), some (.int (sm v j)), some (.int (nI T)), some (.int (nI j)), y9, y10, y11, y12] []) (hD : DK kd R I d v p q B) (hA : ∀ w, w < 5 → I a w = cntF v (w + 1) i) (h9 : v (176 + 56 * i + 9) = nI 1) (h10 : v (176 + 56 * i + 10) = nI 1) (hst : sStand v i = true) (hwf : WF v i 1) (hsh : ¬ v (176 + 56 * i + 13) ≤ 0) : jx_J E l cL_agrees 13 (some .boolean) RL false rmA 1 5 (fun v' n' kd' R' I' => v' = some (.int (nI 1)) ∧ LZ kd' R' I' d k T B) 1 5 n kd R I 25 [some (.ref d), some (.int (nI k)), some (.ref a), some (.int (cntF v 0 i)), some (.int (cntF v 6 i)), some (.int (cntF v 7 i)), some (.int (sm v i)), some (.int (nI T)), some (.int (nI i)), y9, y10, y11, y12] [] := by
  have h16 := hV.k16
  have Kd := hD.k5
  have hT := hV.tl
  obtain ⟨hp1, hp2⟩ := hP.1 i hi
  obtain ⟨⟨c, hc, e11⟩, aa, ll, haa, hll, e14, e12, hal0, hz⟩ := hp1
  have h14 : v (176 + 56 * i + 14) = 0 ↔ v (176 + 56 * i + 12) = 0 := by
    rw [e14, e12]
    have x1 := nI_eq (show aa < 2 ^ 31 from by omega) (show 0 < 2 ^ 31 from by omega)
    have x2 := nI_eq (show ll < 2 ^ 31 from by omega) (show 0 < 2 ^ 31 from by omega)
    exact x1.trans (hal0.trans x2.symm)
  have hal : v (176 + 56 * i + 14) = 0 → v (176 + 56 * i + 9) = nI 0 ∧ v (176 + 56 * i + 10) = nI 1 := fun z => hz ((nI_eq (show aa < 2 ^ 31 from by omega) (show 0 < 2 ^ 31 from by omega)).mp (e14.symm.trans z))
  have hgtT : ¬ v (176 + 56 * i + 13) = 0 → ¬ v (176 + 56 * i + 13) ≤ nI T := by
    intro z
    rcases hp2.2 with e | ⟨u, hu, hu2, e⟩
    · exact absurd e z
    · rw [e]; exact nI_ge hu (by omega)
  have hw0 := hwf.1
  refine j_iload (pc' := 27) dL_agrees_25 rfl rfl ?_
  refine j_iload_n (pc' := 28) dL_agrees_27 rfl rfl ?_
  refine j_icmpF_ge (pc' := 31) (tgt := 462) (nI_ge hi (by omega)) dL_agrees_28 (by decide) rfl ?_
  refine j_aload_n (pc' := 32) dL_agrees_31 rfl rfl ?_
  refine j_iload (pc' := 34) dL_agrees_32 rfl rfl ?_
  refine j_bipush (pc' := 36) (v := nI 15) dL_agrees_34 rfl rfl ?_
  refine j_cVi (pc' := 39) m_L_31 (p_point hD hV (by omega) (by omega) (a := nI 1) ((fPt_15 hV.z h16 hi).trans hw0)) Kd (by decide) rfl rfl rfl ⟨Nat.le_of_ble_eq_true rfl, Nat.le_of_ble_eq_true rfl⟩ ⟨Nat.le_of_ble_eq_true rfl, Nat.le_of_ble_eq_true rfl⟩ (Nat.le_of_ble_eq_true rfl) dL_agrees_36 rfl (fun x1 J1 hq => ?_)
  obtain ⟨hx, hI⟩ := hq
  rw [hx, hI]
  refine j_istore (pc' := 41) (lv' := [_, _, _, _, _, _, _, _, _, _, _, _, _]) dL_agrees_39 rfl (by decide) rfl ?_
  refine j_aload_n (pc' := 42) dL_agrees_41 rfl rfl ?_
  refine j_iload (pc' := 44) dL_agrees_42 rfl rfl ?_
  refine j_bipush (pc' := 46) (v := nI 9) dL_agrees_44 rfl rfl ?_
  refine j_cVi (pc' := 49) m_L_31 (p_point hD hV (by omega) (by omega) (a := nI 1) ((fPt_w hV.z h16 hi (show 9 < 15 from by omega)).trans (h9))) Kd (by decide) rfl rfl rfl ⟨Nat.le_of_ble_eq_true rfl, Nat.le_of_ble_eq_true rfl⟩ ⟨Nat.le_of_ble_eq_true rfl, Nat.le_of_ble_eq_true rfl⟩ (Nat.le_of_ble_eq_true rfl) dL_agrees_46 rfl (fun x1 J1 hq => ?_)
  obtain ⟨hx, hI⟩ := hq
  rw [hx, hI]
  refine j_iconst (pc' := 50) (v := nI 1) dL_agrees_49 rfl rfl ?_
  refine j_icmpF_ne (pc' := 53) (tgt := 57) (by decide) dL_agrees_50 (by decide) rfl ?_
  refine j_iconst (pc' := 54) (v := nI 1) dL_agrees_53 rfl rfl ?_
  refine j_goto (tgt := 58) dL_agrees_54 (by decide) ?_
  refine j_istore (pc' := 60) (lv' := [_, _, _, _, _, _, _, _, _, _, _, _, _]) dL_agrees_58 rfl (by decide) rfl ?_
  refine j_aload_n (pc' := 61) dL_agrees_60 rfl rfl ?_
  refine j_iload (pc' := 63) dL_agrees_61 rfl rfl ?_
  refine j_bipush (pc' := 65) (v := nI 10) dL_agrees_63 rfl rfl ?_
  refine j_cVi (pc' := 68) m_L_31 (p_point hD hV (by omega) (by omega) (a := nI 1) ((fPt_w hV.z h16 hi (show 10 < 15 from by omega)).trans (h10))) Kd (by decide) rfl rfl rfl ⟨Nat.le_of_ble_eq_true rfl, Nat.le_of_ble_eq_true rfl⟩ ⟨Nat.le_of_ble_eq_true rfl, Nat.le_of_ble_eq_true rfl⟩ (Nat.le_of_ble_eq_true rfl) dL_agrees_65 rfl (fun x1 J1 hq => ?_)
  obtain ⟨hx, hI⟩ := hq
  rw [hx, hI]
  refine j_iconst (pc' := 69) (v := nI 1) dL_agrees_68 rfl rfl ?_
  refine j_icmpF_ne (pc' := 72) (tgt := 76) (by decide) dL_agrees_69 (by decide) rfl ?_
  refine j_iconst (pc' := 73) (v := nI 1) dL_agrees_72 rfl rfl ?_
  refine j_goto (tgt := 77) dL_agrees_73 (by decide) ?_
  refine j_istore (pc' := 79) (lv' := [_, _, _, _, _, _, _, _, _, _, _, _, _]) dL_agrees_77 rfl (by decide) rfl ?_
  refine j_iload (pc' := 81) dL_agrees_79 rfl rfl ?_
  refine j_ifT_ne (tgt := 89) (by decide) dL_agrees_81 (by decide) ?_
  refine j_iconst (pc' := 90) (v := nI 1) dL_agrees_89 rfl rfl ?_
  refine j_goto (tgt := 94) dL_agrees_90 (by decide) ?_
  refine j_istore (pc' := 96) (lv' := [_, _, _, _, _, _, _, _, _, _, _, _, _]) dL_agrees_94 rfl (by decide) rfl ?_
  refine j_iload_n (pc' := 97) dL_agrees_96 rfl rfl ?_
  refine j_iload (pc' := 99) dL_agrees_97 rfl rfl ?_
  refine j_ifF_eq (pc' := 102) (tgt := 106) (by decide) dL_agrees_99 (by decide) rfl ?_
  refine j_iconst (pc' := 103) (v := nI 1) dL_agrees_102 rfl rfl ?_
  refine j_goto (tgt := 107) dL_agrees_103 (by decide) ?_
  refine j_iadd (pc' := 108) dL_agrees_107 rfl ?_
  refine j_istore_n (pc' := 109) (lv' := [_, _, _, _, _, _, _, _, _, _, _, _, _]) dL_agrees_108 rfl (by decide) rfl ?_
  refine j_iload (pc' := 111) dL_agrees_109 rfl rfl ?_
  refine j_aload_n (pc' := 112) dL_agrees_111 rfl rfl ?_
  refine j_iload (pc' := 114) dL_agrees_112 rfl rfl ?_
  refine j_bipush (pc' := 116) (v := nI 13) dL_agrees_114 rfl rfl ?_
  refine j_cVi (pc' := 119) m_L_31 (p_point hD hV (by omega) (by omega) (a := v (176 + 56 * i + 13)) ((fPt_w hV.z h16 hi (show 13 < 15 from by omega)))) Kd (by decide) rfl rfl rfl ⟨Nat.le_of_ble_eq_true rfl, Nat.le_of_ble_eq_true rfl⟩ ⟨Nat.le_of_ble_eq_true rfl, Nat.le_of_ble_eq_true rfl⟩ (Nat.le_of_ble_eq_true rfl) dL_agrees_116 rfl (fun x1 J1 hq => ?_)
  obtain ⟨hx, hI⟩ := hq
  rw [hx, hI]
  refine j_ifF_le (pc' := 122) (tgt := 126) (hsh) dL_agrees_119 (by decide) rfl ?_
  refine j_iconst (pc' := 123) (v := nI 1) dL_agrees_122 rfl rfl ?_
  refine j_goto (tgt := 127) dL_agrees_123 (by decide) ?_
  refine j_iadd (pc' := 128) dL_agrees_127 rfl ?_
  refine j_istore (pc' := 130) (lv' := [_, _, _, _, _, _, _, _, _, _, _, _, _]) dL_agrees_128 rfl (by decide) rfl ?_
  refine j_iload (pc' := 132) dL_agrees_130 rfl rfl ?_
  refine j_iload (pc' := 134) dL_agrees_132 rfl rfl ?_
  refine j_ifF_eq (pc' := 137) (tgt := 141) (by decide) dL_agrees_134 (by decide) rfl ?_
  refine j_iconst (pc' := 138) (v := nI 0) dL_agrees_137 rfl rfl ?_
  refine j_goto (tgt := 142) dL_agrees_138 (by decide) ?_
  refine j_iadd (pc' := 143) dL_agrees_142 rfl ?_
  refine j_istore (pc' := 145) (lv' := [_, _, _, _, _, _, _, _, _, _, _, _, _]) dL_agrees_143 rfl (by decide) rfl ?_
  refine j_iload (pc' := 147) dL_agrees_145 rfl rfl ?_
  refine j_aload_n (pc' := 148) dL_agrees_147 rfl rfl ?_
  refine j_iload (pc' := 150) dL_agrees_148 rfl rfl ?_
  refine j_bipush (pc' := 152) (v := nI 14) dL_agrees_150 rfl rfl ?_
  refine j_cVi (pc' := 155) m_L_31 (p_point hD hV (by omega) (by omega) (a := v (176 + 56 * i + 14)) ((fPt_w hV.z h16 hi (show 14 < 15 from by omega)))) Kd (by decide) rfl rfl rfl ⟨Nat.le_of_ble_eq_true rfl, Nat.le_of_ble_eq_true rfl⟩ ⟨Nat.le_of_ble_eq_true rfl, Nat.le_of_ble_eq_true rfl⟩ (Nat.le_of_ble_eq_true rfl) dL_agrees_152 rfl (fun x1 J1 hq => ?_)
  obtain ⟨hx, hI⟩ := hq
  rw [hx, hI]
  refine j_iadd (pc' := 156) dL_agrees_155 rfl ?_
  refine j_istore (pc' := 158) (lv' := [_, _, _, _, _, _, _, _, _, _, _, _, _]) dL_agrees_156 rfl (by decide) rfl ?_
  refine j_iload (pc' := 160) dL_agrees_158 rfl rfl ?_
  refine j_ifF_eq (pc' := 163) (tgt := 177) (by decide) dL_agrees_160 (by decide) rfl ?_
  refine j_iload (pc' := 165) dL_agrees_163 rfl rfl ?_
  refine j_ifF_lt (pc' := 168) (tgt := 185) (by decide) dL_agrees_165 (by decide) rfl ?_
  refine j_iload (pc' := 170) dL_agrees_168 rfl rfl ?_
  refine j_iconst (pc' := 171) (v := nI 4) dL_agrees_170 rfl rfl ?_
  refine j_icmpT_le (tgt := 187) (by decide) dL_agrees_171 (by decide) ?_
  refine j_aload_n (pc' := 188) dL_agrees_187 rfl rfl ?_
  refine j_iload (pc' := 190) dL_agrees_188 rfl rfl ?_
  refine j_ifT_ge (tgt := 197) (by decide) dL_agrees_190 (by decide) ?_
  refine j_iload (pc' := 199) dL_agrees_197 rfl rfl ?_
  refine j_dup2 (pc' := 200) dL_agrees_199 rfl rfl rfl ?_
  refine j_ialdv (pc' := 201) hka rfl (by decide) (by decide) (hA _ (by decide)) dL_agrees_200 rfl ?_
  refine j_iload (pc' := 203) dL_agrees_201 rfl rfl ?_
  refine j_ifF_eq (pc' := 206) (tgt := 210) (by decide) dL_agrees_203 (by decide) rfl ?_
  refine j_iconst (pc' := 207) (v := nI 1) dL_agrees_206 rfl rfl ?_
  refine j_goto (tgt := 211) dL_agrees_207 (by decide) ?_
  refine j_iadd (pc' := 212) dL_agrees_211 rfl ?_
  refine j_iast (pc' := 213) hka rfl (by decide) (by decide) dL_agrees_212 rfl ?_
  have hD2 := hD.upA (j := 1) (x := cntF v 2 i + nI 1) hda
  have hA2 := why_up (a := a) (by decide) hw0 hA
  change jx_J E l cL_agrees 13 (some .boolean) RL false rmA 1 5 (fun v' n' kd' R' I' => v' = some (.int (nI 1)) ∧ LZ kd' R' I' d k T B) 1 5 n kd R (jx_up I a 1 (cntF v 2 i + nI 1)) 213 _ _
  generalize jx_up I a 1 (cntF v 2 i + nI 1) = I2 at hD2 hA2 ⊢
  have hD := hD2
  refine j_aload_n (pc' := 214) dL_agrees_213 rfl rfl ?_
  refine j_iload (pc' := 216) dL_agrees_214 rfl rfl ?_
  refine j_iconst (pc' := 217) (v := nI 5) dL_agrees_216 rfl rfl ?_
  refine j_cVi (pc' := 220) m_L_31 (p_point hD hV (by omega) (by omega) (a := v (176 + 56 * i + 5)) ((fPt_w hV.z h16 hi (show 5 < 15 from by omega)))) Kd (by decide) rfl rfl rfl ⟨Nat.le_of_ble_eq_true rfl, Nat.le_of_ble_eq_true rfl⟩ ⟨Nat.le_of_ble_eq_true rfl, Nat.le_of_ble_eq_true rfl⟩ (Nat.le_of_ble_eq_true rfl) dL_agrees_217 rfl (fun x1 J1 hq => ?_)
  obtain ⟨hx, hI⟩ := hq
  rw [hx, hI]
  refine j_iconst (pc' := 221) (v := nI 1) dL_agrees_220 rfl rfl ?_
  refine j_icmpT_ne (tgt := 240) (fun z => hsh (by rw [hp2.1 z]; decide)) dL_agrees_221 (by decide) ?_
  refine j_aload_n (pc' := 241) dL_agrees_240 rfl rfl ?_
  refine j_iload (pc' := 243) dL_agrees_241 rfl rfl ?_
  refine j_bipush (pc' := 245) (v := nI 13) dL_agrees_243 rfl rfl ?_
  refine j_cVi (pc' := 248) m_L_31 (p_point hD hV (by omega) (by omega) (a := v (176 + 56 * i + 13)) ((fPt_w hV.z h16 hi (show 13 < 15 from by omega)))) Kd (by decide) rfl rfl rfl ⟨Nat.le_of_ble_eq_true rfl, Nat.le_of_ble_eq_true rfl⟩ ⟨Nat.le_of_ble_eq_true rfl, Nat.le_of_ble_eq_true rfl⟩ (Nat.le_of_ble_eq_true rfl) dL_agrees_245 rfl (fun x1 J1 hq => ?_)
  obtain ⟨hx, hI⟩ := hq
  rw [hx, hI]
  refine jx_cut (B := jx_J E l cL_agrees 13 (some .boolean) RL false rmA 1 5 (fun v' n' kd' R' I' => v' = some (.int (nI 1)) ∧ LZ kd' R' I' d k T B) 1 5 n kd R I2 264 [some (.ref d), some (.int (nI k)), some (.ref a), some (.int ((cntF v 0 i) + (nI 1))), some (.int ((cntF v 6 i) + (nI 1))), some (.int ((cntF v 7 i) + (nI 0))), some (.int ((sm v i) + (v (176 + 56 * i + 14)))), some (.int (nI T)), some (.int (nI i)), some (.int (nI 1)), some (.int (nI 1)), some (.int (nI 1)), some (.int (nI 1))] []) (fun kk => ?_) ?_
  ·
    refine j_if_eq (pc' := 251) (tgt := 264) dL_agrees_248 rfl (by decide) (fun c248 => ?_) (fun c248 => ?_)
    ·
      exact kk
    ·
      refine j_aload_n (pc' := 252) dL_agrees_251 rfl rfl ?_
      refine j_iload (pc' := 254) dL_agrees_252 rfl rfl ?_
      refine j_bipush (pc' := 256) (v := nI 13) dL_agrees_254 rfl rfl ?_
      refine j_cVi (pc' := 259) m_L_31 (p_point hD hV (by omega) (by omega) (a := v (176 + 56 * i + 13)) ((fPt_w hV.z h16 hi (show 13 < 15 from by omega)))) Kd (by decide) rfl rfl rfl ⟨Nat.le_of_ble_eq_true rfl, Nat.le_of_ble_eq_true rfl⟩ ⟨Nat.le_of_ble_eq_true rfl, Nat.le_of_ble_eq_true rfl⟩ (Nat.le_of_ble_eq_true rfl) dL_agrees_256 rfl (fun x1 J1 hq => ?_)
      obtain ⟨hx, hI⟩ := hq
      rw [hx, hI]
      refine j_iload (pc' := 261) dL_agrees_259 rfl rfl ?_
      refine j_icmpF_le (pc' := 264) (tgt := 348) (hgtT c248) dL_agrees_261 (by decide) rfl ?_
      exact kk
  ·
    refine j_iload (pc' := 266) dL_agrees_264 rfl rfl ?_
    refine j_iconst (pc' := 267) (v := nI 1) dL_agrees_266 rfl rfl ?_
    refine j_icmpF_ne (pc' := 270) (tgt := 281) (by decide) dL_agrees_267 (by decide) rfl ?_
    refine j_aload_n (pc' := 271) dL_agrees_270 rfl rfl ?_
    refine j_iload (pc' := 273) dL_agrees_271 rfl rfl ?_
    refine j_bipush (pc' := 275) (v := nI 13) dL_agrees_273 rfl rfl ?_
    refine j_cVi (pc' := 278) m_L_31 (p_point hD hV (by omega) (by omega) (a := v (176 + 56 * i + 13)) ((fPt_w hV.z h16 hi (show 13 < 15 from by omega)))) Kd (by decide) rfl rfl rfl ⟨Nat.le_of_ble_eq_true rfl, Nat.le_of_ble_eq_true rfl⟩ ⟨Nat.le_of_ble_eq_true rfl, Nat.le_of_ble_eq_true rfl⟩ (Nat.le_of_ble_eq_true rfl) dL_agrees_275 rfl (fun x1 J1 hq => ?_)
    obtain ⟨hx, hI⟩ := hq
    rw [hx, hI]
    refine j_ifF_eq (pc' := 281) (tgt := 348) (fun z => hsh (by rw [z]; decide)) dL_agrees_278 (by decide) rfl ?_
    refine j_iload (pc' := 283) dL_agrees_281 rfl rfl ?_
    refine j_iconst (pc' := 284) (v := nI 2) dL_agrees_283 rfl rfl ?_
    refine j_icmpT_ne (tgt := 306) (by decide) dL_agrees_284 (by decide) ?_
    refine j_iload (pc' := 308) dL_agrees_306 rfl rfl ?_
    refine j_iconst (pc' := 309) (v := nI 3) dL_agrees_308 rfl rfl ?_
    refine j_icmpT_ne (tgt := 323) (by decide) dL_agrees_309 (by decide) ?_
    refine j_iload (pc' := 325) dL_agrees_323 rfl rfl ?_
    refine j_iconst (pc' := 326) (v := nI 4) dL_agrees_325 rfl rfl ?_
    refine j_icmpT_ne (tgt := 350) (by decide) dL_agrees_326 (by decide) ?_
    refine j_aload_n (pc' := 351) dL_agrees_350 rfl rfl ?_
    refine j_iload (pc' := 353) dL_agrees_351 rfl rfl ?_
    refine j_bipush (pc' := 355) (v := nI 11) dL_agrees_353 rfl rfl ?_
    refine j_cVi (pc' := 358) m_L_31 (p_point hD hV (by omega) (by omega) (a := v (176 + 56 * i + 11)) ((fPt_w hV.z h16 hi (show 11 < 15 from by omega)))) Kd (by decide) rfl rfl rfl ⟨Nat.le_of_ble_eq_true rfl, Nat.le_of_ble_eq_true rfl⟩ ⟨Nat.le_of_ble_eq_true rfl, Nat.le_of_ble_eq_true rfl⟩ (Nat.le_of_ble_eq_true rfl) dL_agrees_355 rfl (fun x1 J1 hq => ?_)
    obtain ⟨hx, hI⟩ := hq
    rw [hx, hI]
    refine j_aload_n (pc' := 359) dL_agrees_358 rfl rfl ?_
    refine j_iload (pc' := 361) dL_agrees_359 rfl rfl ?_
    refine j_iload (pc' := 363) dL_agrees_361 rfl rfl ?_
    refine j_ifF_eq (pc' := 366) (tgt := 370) (by decide) dL_agrees_363 (by decide) rfl ?_
    refine j_iconst (pc' := 367) (v := nI 4) dL_agrees_366 rfl rfl ?_
    refine j_goto (tgt := 371) dL_agrees_367 (by decide) ?_
    refine j_cVi (pc' := 374) m_L_31 (p_point hD hV (by omega) (by omega) (a := v (176 + 56 * i + 4)) ((fPt_w hV.z h16 hi (show 4 < 15 from by omega)))) Kd (by decide) rfl rfl rfl ⟨Nat.le_of_ble_eq_true rfl, Nat.le_of_ble_eq_true rfl⟩ ⟨Nat.le_of_ble_eq_true rfl, Nat.le_of_ble_eq_true rfl⟩ (Nat.le_of_ble_eq_true rfl) dL_agrees_371 rfl (fun x1 J1 hq => ?_)
    obtain ⟨hx, hI⟩ := hq
    rw [hx, hI]
    refine jx_cut (B := jx_J E l cL_agrees 13 (some .boolean) RL false rmA 1 5 (fun v' n' kd' R' I' => v' = some (.int (nI 1)) ∧ LZ kd' R' I' d k T B) 1 5 n kd R I2 390 [some (.ref d), some (.int (nI k)), some (.ref a), some (.int ((cntF v 0 i) + (nI 1))), some (.int ((cntF v 6 i) + (nI 1))), some (.int ((cntF v 7 i) + (nI 0))), some (.int ((sm v i) + (v (176 + 56 * i + 14)))), some (.int (nI T)), some (.int (nI i)), some (.int (nI 1)), some (.int (nI 1)), some (.int (nI 1)), some (.int (nI 1))] []) (fun kk => ?_) ?_
    ·
      refine j_icmp_le (pc' := 377) (tgt := 390) dL_agrees_374 rfl (by decide) (fun c374 => ?_) (fun c374 => ?_)
      ·
        exact kk
      ·
        refine j_aload_n (pc' := 378) dL_agrees_377 rfl rfl ?_
        refine j_iload (pc' := 380) dL_agrees_378 rfl rfl ?_
        refine j_bipush (pc' := 382) (v := nI 11) dL_agrees_380 rfl rfl ?_
        refine j_cVi (pc' := 385) m_L_31 (p_point hD hV (by omega) (by omega) (a := nI c) ((fPt_w hV.z h16 hi (show 11 < 15 from by omega)).trans (e11))) Kd (by decide) rfl rfl rfl ⟨Nat.le_of_ble_eq_true rfl, Nat.le_of_ble_eq_true rfl⟩ ⟨Nat.le_of_ble_eq_true rfl, Nat.le_of_ble_eq_true rfl⟩ (Nat.le_of_ble_eq_true rfl) dL_agrees_382 rfl (fun x1 J1 hq => ?_)
        obtain ⟨hx, hI⟩ := hq
        rw [hx, hI]
        refine j_bipush (pc' := 387) (v := nI 20) dL_agrees_385 rfl rfl ?_
        refine j_icmpF_gt (pc' := 390) (tgt := 454) (nI_nlt (by omega) (by omega)) dL_agrees_387 (by decide) rfl ?_
        exact kk
    ·
      refine j_aload_n (pc' := 391) dL_agrees_390 rfl rfl ?_
      refine j_iload (pc' := 393) dL_agrees_391 rfl rfl ?_
      refine j_bipush (pc' := 395) (v := nI 12) dL_agrees_393 rfl rfl ?_
      refine j_cVi (pc' := 398) m_L_31 (p_point hD hV (by omega) (by omega) (a := nI ll) ((fPt_w hV.z h16 hi (show 12 < 15 from by omega)).trans (e12))) Kd (by decide) rfl rfl rfl ⟨Nat.le_of_ble_eq_true rfl, Nat.le_of_ble_eq_true rfl⟩ ⟨Nat.le_of_ble_eq_true rfl, Nat.le_of_ble_eq_true rfl⟩ (Nat.le_of_ble_eq_true rfl) dL_agrees_395 rfl (fun x1 J1 hq => ?_)
      obtain ⟨hx, hI⟩ := hq
      rw [hx, hI]
      refine j_iload (pc' := 400) dL_agrees_398 rfl rfl ?_
      refine j_icmpF_gt (pc' := 403) (tgt := 454) (nI_nlt (by omega) (by omega)) dL_agrees_400 (by decide) rfl ?_
      refine j_aload_n (pc' := 404) dL_agrees_403 rfl rfl ?_
      refine j_iload (pc' := 406) dL_agrees_404 rfl rfl ?_
      refine j_bipush (pc' := 408) (v := nI 14) dL_agrees_406 rfl rfl ?_
      refine j_cVi (pc' := 411) m_L_31 (p_point hD hV (by omega) (by omega) (a := v (176 + 56 * i + 14)) ((fPt_w hV.z h16 hi (show 14 < 15 from by omega)))) Kd (by decide) rfl rfl rfl ⟨Nat.le_of_ble_eq_true rfl, Nat.le_of_ble_eq_true rfl⟩ ⟨Nat.le_of_ble_eq_true rfl, Nat.le_of_ble_eq_true rfl⟩ (Nat.le_of_ble_eq_true rfl) dL_agrees_408 rfl (fun x1 J1 hq => ?_)
      obtain ⟨hx, hI⟩ := hq
      rw [hx, hI]
      refine jx_cut (B := jx_J E l cL_agrees 13 (some .boolean) RL false rmA 1 5 (fun v' n' kd' R' I' => v' = some (.int (nI 1)) ∧ LZ kd' R' I' d k T B) 1 5 n kd R I2 438 [some (.ref d), some (.int (nI k)), some (.ref a), some (.int ((cntF v 0 i) + (nI 1))), some (.int ((cntF v 6 i) + (nI 1))), some (.int ((cntF v 7 i) + (nI 0))), some (.int ((sm v i) + (v (176 + 56 * i + 14)))), some (.int (nI T)), some (.int (nI i)), some (.int (nI 1)), some (.int (nI 1)), some (.int (nI 1)), some (.int (nI 1))] []) (fun kk => ?_) ?_
      ·
        refine j_if_ne (pc' := 414) (tgt := 418) dL_agrees_411 rfl (by decide) (fun c411 => ?_) (fun c411 => ?_)
        ·
          refine j_iconst (pc' := 419) (v := nI 0) dL_agrees_418 rfl rfl ?_
          refine j_aload_n (pc' := 420) dL_agrees_419 rfl rfl ?_
          refine j_iload (pc' := 422) dL_agrees_420 rfl rfl ?_
          refine j_bipush (pc' := 424) (v := nI 12) dL_agrees_422 rfl rfl ?_
          refine j_cVi (pc' := 427) m_L_31 (p_point hD hV (by omega) (by omega) (a := v (176 + 56 * i + 12)) ((fPt_w hV.z h16 hi (show 12 < 15 from by omega)))) Kd (by decide) rfl rfl rfl ⟨Nat.le_of_ble_eq_true rfl, Nat.le_of_ble_eq_true rfl⟩ ⟨Nat.le_of_ble_eq_true rfl, Nat.le_of_ble_eq_true rfl⟩ (Nat.le_of_ble_eq_true rfl) dL_agrees_424 rfl (fun x1 J1 hq => ?_)
          obtain ⟨hx, hI⟩ := hq
          rw [hx, hI]
          refine j_ifT_ne (tgt := 434) (fun z => c411 (h14.mpr z)) dL_agrees_427 (by decide) ?_
          refine j_iconst (pc' := 435) (v := nI 0) dL_agrees_434 rfl rfl ?_
          refine j_icmpF_ne (pc' := 438) (tgt := 454) (by decide) dL_agrees_435 (by decide) rfl ?_
          exact kk
        ·
          refine j_iconst (pc' := 415) (v := nI 1) dL_agrees_414 rfl rfl ?_
          refine j_goto (tgt := 419) dL_agrees_415 (by decide) ?_
          refine j_aload_n (pc' := 420) dL_agrees_419 rfl rfl ?_
          refine j_iload (pc' := 422) dL_agrees_420 rfl rfl ?_
          refine j_bipush (pc' := 424) (v := nI 12) dL_agrees_422 rfl rfl ?_
          refine j_cVi (pc' := 427) m_L_31 (p_point hD hV (by omega) (by omega) (a := v (176 + 56 * i + 12)) ((fPt_w hV.z h16 hi (show 12 < 15 from by omega)))) Kd (by decide) rfl rfl rfl ⟨Nat.le_of_ble_eq_true rfl, Nat.le_of_ble_eq_true rfl⟩ ⟨Nat.le_of_ble_eq_true rfl, Nat.le_of_ble_eq_true rfl⟩ (Nat.le_of_ble_eq_true rfl) dL_agrees_424 rfl (fun x1 J1 hq => ?_)
          obtain ⟨hx, hI⟩ := hq
          rw [hx, hI]
          refine j_ifF_ne (pc' := 430) (tgt := 434) (h14.mp c411) dL_agrees_427 (by decide) rfl ?_
          refine j_iconst (pc' := 431) (v := nI 1) dL_agrees_430 rfl rfl ?_
          refine j_goto (tgt := 435) dL_agrees_431 (by decide) ?_
          refine j_icmpF_ne (pc' := 438) (tgt := 454) (by decide) dL_agrees_435 (by decide) rfl ?_
          exact kk
      ·
        refine j_aload_n (pc' := 439) dL_agrees_438 rfl rfl ?_
        refine j_iload (pc' := 441) dL_agrees_439 rfl rfl ?_
        refine j_bipush (pc' := 443) (v := nI 14) dL_agrees_441 rfl rfl ?_
        refine j_cVi (pc' := 446) m_L_31 (p_point hD hV (by omega) (by omega) (a := v (176 + 56 * i + 14)) ((fPt_w hV.z h16 hi (show 14 < 15 from by omega)))) Kd (by decide) rfl rfl rfl ⟨Nat.le_of_ble_eq_true rfl, Nat.le_of_ble_eq_true rfl⟩ ⟨Nat.le_of_ble_eq_true rfl, Nat.le_of_ble_eq_true rfl⟩ (Nat.le_of_ble_eq_true rfl) dL_agrees_443 rfl (fun x1 J1 hq => ?_)
        obtain ⟨hx, hI⟩ := hq
        rw [hx, hI]
        refine jx_cut (B := jx_J E l cL_agrees 13 (some .boolean) RL false rmA 1 5 (fun v' n' kd' R' I' => v' = some (.int (nI 1)) ∧ LZ kd' R' I' d k T B) 1 5 n kd R I2 456 [some (.ref d), some (.int (nI k)), some (.ref a), some (.int ((cntF v 0 i) + (nI 1))), some (.int ((cntF v 6 i) + (nI 1))), some (.int ((cntF v 7 i) + (nI 0))), some (.int ((sm v i) + (v (176 + 56 * i + 14)))), some (.int (nI T)), some (.int (nI i)), some (.int (nI 1)), some (.int (nI 1)), some (.int (nI 1)), some (.int (nI 1))] []) (fun kk => ?_) ?_
        ·
          refine j_if_ne (pc' := 449) (tgt := 456) dL_agrees_446 rfl (by decide) (fun c446 => ?_) (fun c446 => ?_)
          ·
            exact kk
          ·
            exact absurd (hal c446) (by rw [h9, h10]; decide)
        ·
          refine j_iincN (pc' := 459) (lv' := [_, _, _, _, _, _, _, _, _, _, _, _, _]) dL_agrees_456 rfl rfl (by decide) rfl ?_
          refine j_goto (tgt := 25) dL_agrees_459 (by decide) ?_
          have e0 : cntF v 0 (i + 1) = cntF v 0 i + nI 1 := cnt_t (by rw [cC0]; exact hst)
          have e6 : cntF v 6 (i + 1) = cntF v 6 i + nI 1 := cnt_t (by rw [cC6]; exact decide_eq_true hsh)
          have e7 : cntF v 7 (i + 1) = cntF v 7 i + nI 0 := cnt_f (by rw [cC7]; exact decide_eq_false (by rw [h10]; decide))
          refine j_eqLA e0 e6 e7 ?_
          exact ih (i + 1) I2 _ _ _ _ (by omega) (by omega) hD hA2
set_option maxRecDepth 100000 in
set_option maxHeartbeats 4000000 in
theorem ag_11_20 {E : jx_E} {l : Launch} {n : Nat} {kd : jx_K} {R : jx_R} {d : Nat} {v p : Nat → Int32} {q B k T S N : Nat} {i a : Nat} {I : jx_I} {y9 y10 y11 y12 : Option Value} (hV : VI v k T S N) (hN : N ≤ B) (hB : B + 100000 < 2147483000) (hP : PI v k T) (hi : i < k) (hka : kd a = (7, 5)) (hda : d + 344 ≤ a) (ih : ∀ (j : Nat) (I : jx_I) (y9 y10 y11 y12 : Option Value), i < j → j ≤ k → DK kd R I d v p q B → (∀ w, w < 5 → I a w = cntF v (w + 1) j) → jx_J E l cL_agrees 13 (some .boolean) RL false rmA 1 5 (fun v' n' kd' R' I' => v' = some (.int (nI 1)) ∧ LZ kd' R' I' d k T B) 1 5 n kd R I 25 [some (.ref d), some (.int (nI k)), some (.ref a), some (.int (cntF v 0 j)), some (.int (cntF v 6 j)), some (.int (cntF v 7 j)), some (.int (sm v j)), some (.int (nI T)), some (.int (nI j)), y9, y10, y11, y12] []) (hD : DK kd R I d v p q B) (hA : ∀ w, w < 5 → I a w = cntF v (w + 1) i) (h9 : v (176 + 56 * i + 9) = nI 1) (h10 : v (176 + 56 * i + 10) = nI 1) (hst : sStand v i = true) (hwf : WF v i 2) (hsh : v (176 + 56 * i + 13) ≤ 0) : jx_J E l cL_agrees 13 (some .boolean) RL false rmA 1 5 (fun v' n' kd' R' I' => v' = some (.int (nI 1)) ∧ LZ kd' R' I' d k T B) 1 5 n kd R I 25 [some (.ref d), some (.int (nI k)), some (.ref a), some (.int (cntF v 0 i)), some (.int (cntF v 6 i)), some (.int (cntF v 7 i)), some (.int (sm v i)), some (.int (nI T)), some (.int (nI i)), y9, y10, y11, y12] [] := by
  have h16 := hV.k16
  have Kd := hD.k5
  have hT := hV.tl
  obtain ⟨hp1, hp2⟩ := hP.1 i hi
  obtain ⟨⟨c, hc, e11⟩, aa, ll, haa, hll, e14, e12, hal0, hz⟩ := hp1
  have h14 : v (176 + 56 * i + 14) = 0 ↔ v (176 + 56 * i + 12) = 0 := by
    rw [e14, e12]
    have x1 := nI_eq (show aa < 2 ^ 31 from by omega) (show 0 < 2 ^ 31 from by omega)
    have x2 := nI_eq (show ll < 2 ^ 31 from by omega) (show 0 < 2 ^ 31 from by omega)
    exact x1.trans (hal0.trans x2.symm)
  have hal : v (176 + 56 * i + 14) = 0 → v (176 + 56 * i + 9) = nI 0 ∧ v (176 + 56 * i + 10) = nI 1 := fun z => hz ((nI_eq (show aa < 2 ^ 31 from by omega) (show 0 < 2 ^ 31 from by omega)).mp (e14.symm.trans z))
  have hgtT : ¬ v (176 + 56 * i + 13) = 0 → ¬ v (176 + 56 * i + 13) ≤ nI T := by
    intro z
    rcases hp2.2 with e | ⟨u, hu, hu2, e⟩
    · exact absurd e z
    · rw [e]; exact nI_ge hu (by omega)
  have hw0 := hwf.1
  refine j_iload (pc' := 27) dL_agrees_25 rfl rfl ?_
  refine j_iload_n (pc' := 28) dL_agrees_27 rfl rfl ?_
  refine j_icmpF_ge (pc' := 31) (tgt := 462) (nI_ge hi (by omega)) dL_agrees_28 (by decide) rfl ?_
  refine j_aload_n (pc' := 32) dL_agrees_31 rfl rfl ?_
  refine j_iload (pc' := 34) dL_agrees_32 rfl rfl ?_
  refine j_bipush (pc' := 36) (v := nI 15) dL_agrees_34 rfl rfl ?_
  refine j_cVi (pc' := 39) m_L_31 (p_point hD hV (by omega) (by omega) (a := nI 2) ((fPt_15 hV.z h16 hi).trans hw0)) Kd (by decide) rfl rfl rfl ⟨Nat.le_of_ble_eq_true rfl, Nat.le_of_ble_eq_true rfl⟩ ⟨Nat.le_of_ble_eq_true rfl, Nat.le_of_ble_eq_true rfl⟩ (Nat.le_of_ble_eq_true rfl) dL_agrees_36 rfl (fun x1 J1 hq => ?_)
  obtain ⟨hx, hI⟩ := hq
  rw [hx, hI]
  refine j_istore (pc' := 41) (lv' := [_, _, _, _, _, _, _, _, _, _, _, _, _]) dL_agrees_39 rfl (by decide) rfl ?_
  refine j_aload_n (pc' := 42) dL_agrees_41 rfl rfl ?_
  refine j_iload (pc' := 44) dL_agrees_42 rfl rfl ?_
  refine j_bipush (pc' := 46) (v := nI 9) dL_agrees_44 rfl rfl ?_
  refine j_cVi (pc' := 49) m_L_31 (p_point hD hV (by omega) (by omega) (a := nI 1) ((fPt_w hV.z h16 hi (show 9 < 15 from by omega)).trans (h9))) Kd (by decide) rfl rfl rfl ⟨Nat.le_of_ble_eq_true rfl, Nat.le_of_ble_eq_true rfl⟩ ⟨Nat.le_of_ble_eq_true rfl, Nat.le_of_ble_eq_true rfl⟩ (Nat.le_of_ble_eq_true rfl) dL_agrees_46 rfl (fun x1 J1 hq => ?_)
  obtain ⟨hx, hI⟩ := hq
  rw [hx, hI]
  refine j_iconst (pc' := 50) (v := nI 1) dL_agrees_49 rfl rfl ?_
  refine j_icmpF_ne (pc' := 53) (tgt := 57) (by decide) dL_agrees_50 (by decide) rfl ?_
  refine j_iconst (pc' := 54) (v := nI 1) dL_agrees_53 rfl rfl ?_
  refine j_goto (tgt := 58) dL_agrees_54 (by decide) ?_
  refine j_istore (pc' := 60) (lv' := [_, _, _, _, _, _, _, _, _, _, _, _, _]) dL_agrees_58 rfl (by decide) rfl ?_
  refine j_aload_n (pc' := 61) dL_agrees_60 rfl rfl ?_
  refine j_iload (pc' := 63) dL_agrees_61 rfl rfl ?_
  refine j_bipush (pc' := 65) (v := nI 10) dL_agrees_63 rfl rfl ?_
  refine j_cVi (pc' := 68) m_L_31 (p_point hD hV (by omega) (by omega) (a := nI 1) ((fPt_w hV.z h16 hi (show 10 < 15 from by omega)).trans (h10))) Kd (by decide) rfl rfl rfl ⟨Nat.le_of_ble_eq_true rfl, Nat.le_of_ble_eq_true rfl⟩ ⟨Nat.le_of_ble_eq_true rfl, Nat.le_of_ble_eq_true rfl⟩ (Nat.le_of_ble_eq_true rfl) dL_agrees_65 rfl (fun x1 J1 hq => ?_)
  obtain ⟨hx, hI⟩ := hq
  rw [hx, hI]
  refine j_iconst (pc' := 69) (v := nI 1) dL_agrees_68 rfl rfl ?_
  refine j_icmpF_ne (pc' := 72) (tgt := 76) (by decide) dL_agrees_69 (by decide) rfl ?_
  refine j_iconst (pc' := 73) (v := nI 1) dL_agrees_72 rfl rfl ?_
  refine j_goto (tgt := 77) dL_agrees_73 (by decide) ?_
  refine j_istore (pc' := 79) (lv' := [_, _, _, _, _, _, _, _, _, _, _, _, _]) dL_agrees_77 rfl (by decide) rfl ?_
  refine j_iload (pc' := 81) dL_agrees_79 rfl rfl ?_
  refine j_ifT_ne (tgt := 89) (by decide) dL_agrees_81 (by decide) ?_
  refine j_iconst (pc' := 90) (v := nI 1) dL_agrees_89 rfl rfl ?_
  refine j_goto (tgt := 94) dL_agrees_90 (by decide) ?_
  refine j_istore (pc' := 96) (lv' := [_, _, _, _, _, _, _, _, _, _, _, _, _]) dL_agrees_94 rfl (by decide) rfl ?_
  refine j_iload_n (pc' := 97) dL_agrees_96 rfl rfl ?_
  refine j_iload (pc' := 99) dL_agrees_97 rfl rfl ?_
  refine j_ifF_eq (pc' := 102) (tgt := 106) (by decide) dL_agrees_99 (by decide) rfl ?_
  refine j_iconst (pc' := 103) (v := nI 1) dL_agrees_102 rfl rfl ?_
  refine j_goto (tgt := 107) dL_agrees_103 (by decide) ?_
  refine j_iadd (pc' := 108) dL_agrees_107 rfl ?_
  refine j_istore_n (pc' := 109) (lv' := [_, _, _, _, _, _, _, _, _, _, _, _, _]) dL_agrees_108 rfl (by decide) rfl ?_
  refine j_iload (pc' := 111) dL_agrees_109 rfl rfl ?_
  refine j_aload_n (pc' := 112) dL_agrees_111 rfl rfl ?_
  refine j_iload (pc' := 114) dL_agrees_112 rfl rfl ?_
  refine j_bipush (pc' := 116) (v := nI 13) dL_agrees_114 rfl rfl ?_
  refine j_cVi (pc' := 119) m_L_31 (p_point hD hV (by omega) (by omega) (a := v (176 + 56 * i + 13)) ((fPt_w hV.z h16 hi (show 13 < 15 from by omega)))) Kd (by decide) rfl rfl rfl ⟨Nat.le_of_ble_eq_true rfl, Nat.le_of_ble_eq_true rfl⟩ ⟨Nat.le_of_ble_eq_true rfl, Nat.le_of_ble_eq_true rfl⟩ (Nat.le_of_ble_eq_true rfl) dL_agrees_116 rfl (fun x1 J1 hq => ?_)
  obtain ⟨hx, hI⟩ := hq
  rw [hx, hI]
  refine j_ifT_le (tgt := 126) (hsh) dL_agrees_119 (by decide) ?_
  refine j_iconst (pc' := 127) (v := nI 0) dL_agrees_126 rfl rfl ?_
  refine j_iadd (pc' := 128) dL_agrees_127 rfl ?_
  refine j_istore (pc' := 130) (lv' := [_, _, _, _, _, _, _, _, _, _, _, _, _]) dL_agrees_128 rfl (by decide) rfl ?_
  refine j_iload (pc' := 132) dL_agrees_130 rfl rfl ?_
  refine j_iload (pc' := 134) dL_agrees_132 rfl rfl ?_
  refine j_ifF_eq (pc' := 137) (tgt := 141) (by decide) dL_agrees_134 (by decide) rfl ?_
  refine j_iconst (pc' := 138) (v := nI 0) dL_agrees_137 rfl rfl ?_
  refine j_goto (tgt := 142) dL_agrees_138 (by decide) ?_
  refine j_iadd (pc' := 143) dL_agrees_142 rfl ?_
  refine j_istore (pc' := 145) (lv' := [_, _, _, _, _, _, _, _, _, _, _, _, _]) dL_agrees_143 rfl (by decide) rfl ?_
  refine j_iload (pc' := 147) dL_agrees_145 rfl rfl ?_
  refine j_aload_n (pc' := 148) dL_agrees_147 rfl rfl ?_
  refine j_iload (pc' := 150) dL_agrees_148 rfl rfl ?_
  refine j_bipush (pc' := 152) (v := nI 14) dL_agrees_150 rfl rfl ?_
  refine j_cVi (pc' := 155) m_L_31 (p_point hD hV (by omega) (by omega) (a := v (176 + 56 * i + 14)) ((fPt_w hV.z h16 hi (show 14 < 15 from by omega)))) Kd (by decide) rfl rfl rfl ⟨Nat.le_of_ble_eq_true rfl, Nat.le_of_ble_eq_true rfl⟩ ⟨Nat.le_of_ble_eq_true rfl, Nat.le_of_ble_eq_true rfl⟩ (Nat.le_of_ble_eq_true rfl) dL_agrees_152 rfl (fun x1 J1 hq => ?_)
  obtain ⟨hx, hI⟩ := hq
  rw [hx, hI]
  refine j_iadd (pc' := 156) dL_agrees_155 rfl ?_
  refine j_istore (pc' := 158) (lv' := [_, _, _, _, _, _, _, _, _, _, _, _, _]) dL_agrees_156 rfl (by decide) rfl ?_
  refine j_iload (pc' := 160) dL_agrees_158 rfl rfl ?_
  refine j_ifF_eq (pc' := 163) (tgt := 177) (by decide) dL_agrees_160 (by decide) rfl ?_
  refine j_iload (pc' := 165) dL_agrees_163 rfl rfl ?_
  refine j_ifF_lt (pc' := 168) (tgt := 185) (by decide) dL_agrees_165 (by decide) rfl ?_
  refine j_iload (pc' := 170) dL_agrees_168 rfl rfl ?_
  refine j_iconst (pc' := 171) (v := nI 4) dL_agrees_170 rfl rfl ?_
  refine j_icmpT_le (tgt := 187) (by decide) dL_agrees_171 (by decide) ?_
  refine j_aload_n (pc' := 188) dL_agrees_187 rfl rfl ?_
  refine j_iload (pc' := 190) dL_agrees_188 rfl rfl ?_
  refine j_ifT_ge (tgt := 197) (by decide) dL_agrees_190 (by decide) ?_
  refine j_iload (pc' := 199) dL_agrees_197 rfl rfl ?_
  refine j_dup2 (pc' := 200) dL_agrees_199 rfl rfl rfl ?_
  refine j_ialdv (pc' := 201) hka rfl (by decide) (by decide) (hA _ (by decide)) dL_agrees_200 rfl ?_
  refine j_iload (pc' := 203) dL_agrees_201 rfl rfl ?_
  refine j_ifF_eq (pc' := 206) (tgt := 210) (by decide) dL_agrees_203 (by decide) rfl ?_
  refine j_iconst (pc' := 207) (v := nI 1) dL_agrees_206 rfl rfl ?_
  refine j_goto (tgt := 211) dL_agrees_207 (by decide) ?_
  refine j_iadd (pc' := 212) dL_agrees_211 rfl ?_
  refine j_iast (pc' := 213) hka rfl (by decide) (by decide) dL_agrees_212 rfl ?_
  have hD2 := hD.upA (j := 2) (x := cntF v 3 i + nI 1) hda
  have hA2 := why_up (a := a) (by decide) hw0 hA
  change jx_J E l cL_agrees 13 (some .boolean) RL false rmA 1 5 (fun v' n' kd' R' I' => v' = some (.int (nI 1)) ∧ LZ kd' R' I' d k T B) 1 5 n kd R (jx_up I a 2 (cntF v 3 i + nI 1)) 213 _ _
  generalize jx_up I a 2 (cntF v 3 i + nI 1) = I2 at hD2 hA2 ⊢
  have hD := hD2
  refine j_aload_n (pc' := 214) dL_agrees_213 rfl rfl ?_
  refine j_iload (pc' := 216) dL_agrees_214 rfl rfl ?_
  refine j_iconst (pc' := 217) (v := nI 5) dL_agrees_216 rfl rfl ?_
  refine j_cVi (pc' := 220) m_L_31 (p_point hD hV (by omega) (by omega) (a := v (176 + 56 * i + 5)) ((fPt_w hV.z h16 hi (show 5 < 15 from by omega)))) Kd (by decide) rfl rfl rfl ⟨Nat.le_of_ble_eq_true rfl, Nat.le_of_ble_eq_true rfl⟩ ⟨Nat.le_of_ble_eq_true rfl, Nat.le_of_ble_eq_true rfl⟩ (Nat.le_of_ble_eq_true rfl) dL_agrees_217 rfl (fun x1 J1 hq => ?_)
  obtain ⟨hx, hI⟩ := hq
  rw [hx, hI]
  refine j_iconst (pc' := 221) (v := nI 1) dL_agrees_220 rfl rfl ?_
  refine j_icmpT_ne (tgt := 240) (hwf.2.2.2.1 (by omega)) dL_agrees_221 (by decide) ?_
  refine j_aload_n (pc' := 241) dL_agrees_240 rfl rfl ?_
  refine j_iload (pc' := 243) dL_agrees_241 rfl rfl ?_
  refine j_bipush (pc' := 245) (v := nI 13) dL_agrees_243 rfl rfl ?_
  refine j_cVi (pc' := 248) m_L_31 (p_point hD hV (by omega) (by omega) (a := v (176 + 56 * i + 13)) ((fPt_w hV.z h16 hi (show 13 < 15 from by omega)))) Kd (by decide) rfl rfl rfl ⟨Nat.le_of_ble_eq_true rfl, Nat.le_of_ble_eq_true rfl⟩ ⟨Nat.le_of_ble_eq_true rfl, Nat.le_of_ble_eq_true rfl⟩ (Nat.le_of_ble_eq_true rfl) dL_agrees_245 rfl (fun x1 J1 hq => ?_)
  obtain ⟨hx, hI⟩ := hq
  rw [hx, hI]
  refine jx_cut (B := jx_J E l cL_agrees 13 (some .boolean) RL false rmA 1 5 (fun v' n' kd' R' I' => v' = some (.int (nI 1)) ∧ LZ kd' R' I' d k T B) 1 5 n kd R I2 264 [some (.ref d), some (.int (nI k)), some (.ref a), some (.int ((cntF v 0 i) + (nI 1))), some (.int ((cntF v 6 i) + (nI 0))), some (.int ((cntF v 7 i) + (nI 0))), some (.int ((sm v i) + (v (176 + 56 * i + 14)))), some (.int (nI T)), some (.int (nI i)), some (.int (nI 2)), some (.int (nI 1)), some (.int (nI 1)), some (.int (nI 1))] []) (fun kk => ?_) ?_
  ·
    refine j_if_eq (pc' := 251) (tgt := 264) dL_agrees_248 rfl (by decide) (fun c248 => ?_) (fun c248 => ?_)
    ·
      exact kk
    ·
      refine j_aload_n (pc' := 252) dL_agrees_251 rfl rfl ?_
      refine j_iload (pc' := 254) dL_agrees_252 rfl rfl ?_
      refine j_bipush (pc' := 256) (v := nI 13) dL_agrees_254 rfl rfl ?_
      refine j_cVi (pc' := 259) m_L_31 (p_point hD hV (by omega) (by omega) (a := v (176 + 56 * i + 13)) ((fPt_w hV.z h16 hi (show 13 < 15 from by omega)))) Kd (by decide) rfl rfl rfl ⟨Nat.le_of_ble_eq_true rfl, Nat.le_of_ble_eq_true rfl⟩ ⟨Nat.le_of_ble_eq_true rfl, Nat.le_of_ble_eq_true rfl⟩ (Nat.le_of_ble_eq_true rfl) dL_agrees_256 rfl (fun x1 J1 hq => ?_)
      obtain ⟨hx, hI⟩ := hq
      rw [hx, hI]
      refine j_iload (pc' := 261) dL_agrees_259 rfl rfl ?_
      refine j_icmpF_le (pc' := 264) (tgt := 348) (hgtT c248) dL_agrees_261 (by decide) rfl ?_
      exact kk
  ·
    refine j_iload (pc' := 266) dL_agrees_264 rfl rfl ?_
    refine j_iconst (pc' := 267) (v := nI 1) dL_agrees_266 rfl rfl ?_
    refine j_icmpT_ne (tgt := 281) (by decide) dL_agrees_267 (by decide) ?_
    refine j_iload (pc' := 283) dL_agrees_281 rfl rfl ?_
    refine j_iconst (pc' := 284) (v := nI 2) dL_agrees_283 rfl rfl ?_
    refine j_icmpF_ne (pc' := 287) (tgt := 306) (by decide) dL_agrees_284 (by decide) rfl ?_
    refine j_aload_n (pc' := 288) dL_agrees_287 rfl rfl ?_
    refine j_iload (pc' := 290) dL_agrees_288 rfl rfl ?_
    refine j_bipush (pc' := 292) (v := nI 6) dL_agrees_290 rfl rfl ?_
    refine j_cVi (pc' := 295) m_L_31 (p_point hD hV (by omega) (by omega) (a := v (176 + 56 * i + 6)) ((fPt_w hV.z h16 hi (show 6 < 15 from by omega)))) Kd (by decide) rfl rfl rfl ⟨Nat.le_of_ble_eq_true rfl, Nat.le_of_ble_eq_true rfl⟩ ⟨Nat.le_of_ble_eq_true rfl, Nat.le_of_ble_eq_true rfl⟩ (Nat.le_of_ble_eq_true rfl) dL_agrees_292 rfl (fun x1 J1 hq => ?_)
    obtain ⟨hx, hI⟩ := hq
    rw [hx, hI]
    refine j_aload_n (pc' := 296) dL_agrees_295 rfl rfl ?_
    refine j_iconst (pc' := 297) (v := nI 1) dL_agrees_296 rfl rfl ?_
    refine j_cVi (pc' := 300) m_L_44 (p_plant hD hV (by omega) (by omega) (a := v 2) (fPl_1)) Kd (by decide) rfl rfl rfl ⟨Nat.le_of_ble_eq_true rfl, Nat.le_of_ble_eq_true rfl⟩ ⟨Nat.le_of_ble_eq_true rfl, Nat.le_of_ble_eq_true rfl⟩ (Nat.le_of_ble_eq_true rfl) dL_agrees_297 rfl (fun x1 J1 hq => ?_)
    obtain ⟨hx, hI⟩ := hq
    rw [hx, hI]
    refine j_ishr (pc' := 301) dL_agrees_300 rfl ?_
    refine j_iconst (pc' := 302) (v := nI 1) dL_agrees_301 rfl rfl ?_
    refine j_iand (pc' := 303) dL_agrees_302 rfl ?_
    refine j_ifF_eq (pc' := 306) (tgt := 348) (by rw [hwf.2.2.2.2.1 rfl]; decide) dL_agrees_303 (by decide) rfl ?_
    refine j_iload (pc' := 308) dL_agrees_306 rfl rfl ?_
    refine j_iconst (pc' := 309) (v := nI 3) dL_agrees_308 rfl rfl ?_
    refine j_icmpT_ne (tgt := 323) (by decide) dL_agrees_309 (by decide) ?_
    refine j_iload (pc' := 325) dL_agrees_323 rfl rfl ?_
    refine j_iconst (pc' := 326) (v := nI 4) dL_agrees_325 rfl rfl ?_
    refine j_icmpT_ne (tgt := 350) (by decide) dL_agrees_326 (by decide) ?_
    refine j_aload_n (pc' := 351) dL_agrees_350 rfl rfl ?_
    refine j_iload (pc' := 353) dL_agrees_351 rfl rfl ?_
    refine j_bipush (pc' := 355) (v := nI 11) dL_agrees_353 rfl rfl ?_
    refine j_cVi (pc' := 358) m_L_31 (p_point hD hV (by omega) (by omega) (a := v (176 + 56 * i + 11)) ((fPt_w hV.z h16 hi (show 11 < 15 from by omega)))) Kd (by decide) rfl rfl rfl ⟨Nat.le_of_ble_eq_true rfl, Nat.le_of_ble_eq_true rfl⟩ ⟨Nat.le_of_ble_eq_true rfl, Nat.le_of_ble_eq_true rfl⟩ (Nat.le_of_ble_eq_true rfl) dL_agrees_355 rfl (fun x1 J1 hq => ?_)
    obtain ⟨hx, hI⟩ := hq
    rw [hx, hI]
    refine j_aload_n (pc' := 359) dL_agrees_358 rfl rfl ?_
    refine j_iload (pc' := 361) dL_agrees_359 rfl rfl ?_
    refine j_iload (pc' := 363) dL_agrees_361 rfl rfl ?_
    refine j_ifF_eq (pc' := 366) (tgt := 370) (by decide) dL_agrees_363 (by decide) rfl ?_
    refine j_iconst (pc' := 367) (v := nI 4) dL_agrees_366 rfl rfl ?_
    refine j_goto (tgt := 371) dL_agrees_367 (by decide) ?_
    refine j_cVi (pc' := 374) m_L_31 (p_point hD hV (by omega) (by omega) (a := v (176 + 56 * i + 4)) ((fPt_w hV.z h16 hi (show 4 < 15 from by omega)))) Kd (by decide) rfl rfl rfl ⟨Nat.le_of_ble_eq_true rfl, Nat.le_of_ble_eq_true rfl⟩ ⟨Nat.le_of_ble_eq_true rfl, Nat.le_of_ble_eq_true rfl⟩ (Nat.le_of_ble_eq_true rfl) dL_agrees_371 rfl (fun x1 J1 hq => ?_)
    obtain ⟨hx, hI⟩ := hq
    rw [hx, hI]
    refine jx_cut (B := jx_J E l cL_agrees 13 (some .boolean) RL false rmA 1 5 (fun v' n' kd' R' I' => v' = some (.int (nI 1)) ∧ LZ kd' R' I' d k T B) 1 5 n kd R I2 390 [some (.ref d), some (.int (nI k)), some (.ref a), some (.int ((cntF v 0 i) + (nI 1))), some (.int ((cntF v 6 i) + (nI 0))), some (.int ((cntF v 7 i) + (nI 0))), some (.int ((sm v i) + (v (176 + 56 * i + 14)))), some (.int (nI T)), some (.int (nI i)), some (.int (nI 2)), some (.int (nI 1)), some (.int (nI 1)), some (.int (nI 1))] []) (fun kk => ?_) ?_
    ·
      refine j_icmp_le (pc' := 377) (tgt := 390) dL_agrees_374 rfl (by decide) (fun c374 => ?_) (fun c374 => ?_)
      ·
        exact kk
      ·
        refine j_aload_n (pc' := 378) dL_agrees_377 rfl rfl ?_
        refine j_iload (pc' := 380) dL_agrees_378 rfl rfl ?_
        refine j_bipush (pc' := 382) (v := nI 11) dL_agrees_380 rfl rfl ?_
        refine j_cVi (pc' := 385) m_L_31 (p_point hD hV (by omega) (by omega) (a := nI c) ((fPt_w hV.z h16 hi (show 11 < 15 from by omega)).trans (e11))) Kd (by decide) rfl rfl rfl ⟨Nat.le_of_ble_eq_true rfl, Nat.le_of_ble_eq_true rfl⟩ ⟨Nat.le_of_ble_eq_true rfl, Nat.le_of_ble_eq_true rfl⟩ (Nat.le_of_ble_eq_true rfl) dL_agrees_382 rfl (fun x1 J1 hq => ?_)
        obtain ⟨hx, hI⟩ := hq
        rw [hx, hI]
        refine j_bipush (pc' := 387) (v := nI 20) dL_agrees_385 rfl rfl ?_
        refine j_icmpF_gt (pc' := 390) (tgt := 454) (nI_nlt (by omega) (by omega)) dL_agrees_387 (by decide) rfl ?_
        exact kk
    ·
      refine j_aload_n (pc' := 391) dL_agrees_390 rfl rfl ?_
      refine j_iload (pc' := 393) dL_agrees_391 rfl rfl ?_
      refine j_bipush (pc' := 395) (v := nI 12) dL_agrees_393 rfl rfl ?_
      refine j_cVi (pc' := 398) m_L_31 (p_point hD hV (by omega) (by omega) (a := nI ll) ((fPt_w hV.z h16 hi (show 12 < 15 from by omega)).trans (e12))) Kd (by decide) rfl rfl rfl ⟨Nat.le_of_ble_eq_true rfl, Nat.le_of_ble_eq_true rfl⟩ ⟨Nat.le_of_ble_eq_true rfl, Nat.le_of_ble_eq_true rfl⟩ (Nat.le_of_ble_eq_true rfl) dL_agrees_395 rfl (fun x1 J1 hq => ?_)
      obtain ⟨hx, hI⟩ := hq
      rw [hx, hI]
      refine j_iload (pc' := 400) dL_agrees_398 rfl rfl ?_
      refine j_icmpF_gt (pc' := 403) (tgt := 454) (nI_nlt (by omega) (by omega)) dL_agrees_400 (by decide) rfl ?_
      refine j_aload_n (pc' := 404) dL_agrees_403 rfl rfl ?_
      refine j_iload (pc' := 406) dL_agrees_404 rfl rfl ?_
      refine j_bipush (pc' := 408) (v := nI 14) dL_agrees_406 rfl rfl ?_
      refine j_cVi (pc' := 411) m_L_31 (p_point hD hV (by omega) (by omega) (a := v (176 + 56 * i + 14)) ((fPt_w hV.z h16 hi (show 14 < 15 from by omega)))) Kd (by decide) rfl rfl rfl ⟨Nat.le_of_ble_eq_true rfl, Nat.le_of_ble_eq_true rfl⟩ ⟨Nat.le_of_ble_eq_true rfl, Nat.le_of_ble_eq_true rfl⟩ (Nat.le_of_ble_eq_true rfl) dL_agrees_408 rfl (fun x1 J1 hq => ?_)
      obtain ⟨hx, hI⟩ := hq
      rw [hx, hI]
      refine jx_cut (B := jx_J E l cL_agrees 13 (some .boolean) RL false rmA 1 5 (fun v' n' kd' R' I' => v' = some (.int (nI 1)) ∧ LZ kd' R' I' d k T B) 1 5 n kd R I2 438 [some (.ref d), some (.int (nI k)), some (.ref a), some (.int ((cntF v 0 i) + (nI 1))), some (.int ((cntF v 6 i) + (nI 0))), some (.int ((cntF v 7 i) + (nI 0))), some (.int ((sm v i) + (v (176 + 56 * i + 14)))), some (.int (nI T)), some (.int (nI i)), some (.int (nI 2)), some (.int (nI 1)), some (.int (nI 1)), some (.int (nI 1))] []) (fun kk => ?_) ?_
      ·
        refine j_if_ne (pc' := 414) (tgt := 418) dL_agrees_411 rfl (by decide) (fun c411 => ?_) (fun c411 => ?_)
        ·
          refine j_iconst (pc' := 419) (v := nI 0) dL_agrees_418 rfl rfl ?_
          refine j_aload_n (pc' := 420) dL_agrees_419 rfl rfl ?_
          refine j_iload (pc' := 422) dL_agrees_420 rfl rfl ?_
          refine j_bipush (pc' := 424) (v := nI 12) dL_agrees_422 rfl rfl ?_
          refine j_cVi (pc' := 427) m_L_31 (p_point hD hV (by omega) (by omega) (a := v (176 + 56 * i + 12)) ((fPt_w hV.z h16 hi (show 12 < 15 from by omega)))) Kd (by decide) rfl rfl rfl ⟨Nat.le_of_ble_eq_true rfl, Nat.le_of_ble_eq_true rfl⟩ ⟨Nat.le_of_ble_eq_true rfl, Nat.le_of_ble_eq_true rfl⟩ (Nat.le_of_ble_eq_true rfl) dL_agrees_424 rfl (fun x1 J1 hq => ?_)
          obtain ⟨hx, hI⟩ := hq
          rw [hx, hI]
          refine j_ifT_ne (tgt := 434) (fun z => c411 (h14.mpr z)) dL_agrees_427 (by decide) ?_
          refine j_iconst (pc' := 435) (v := nI 0) dL_agrees_434 rfl rfl ?_
          refine j_icmpF_ne (pc' := 438) (tgt := 454) (by decide) dL_agrees_435 (by decide) rfl ?_
          exact kk
        ·
          refine j_iconst (pc' := 415) (v := nI 1) dL_agrees_414 rfl rfl ?_
          refine j_goto (tgt := 419) dL_agrees_415 (by decide) ?_
          refine j_aload_n (pc' := 420) dL_agrees_419 rfl rfl ?_
          refine j_iload (pc' := 422) dL_agrees_420 rfl rfl ?_
          refine j_bipush (pc' := 424) (v := nI 12) dL_agrees_422 rfl rfl ?_
          refine j_cVi (pc' := 427) m_L_31 (p_point hD hV (by omega) (by omega) (a := v (176 + 56 * i + 12)) ((fPt_w hV.z h16 hi (show 12 < 15 from by omega)))) Kd (by decide) rfl rfl rfl ⟨Nat.le_of_ble_eq_true rfl, Nat.le_of_ble_eq_true rfl⟩ ⟨Nat.le_of_ble_eq_true rfl, Nat.le_of_ble_eq_true rfl⟩ (Nat.le_of_ble_eq_true rfl) dL_agrees_424 rfl (fun x1 J1 hq => ?_)
          obtain ⟨hx, hI⟩ := hq
          rw [hx, hI]
          refine j_ifF_ne (pc' := 430) (tgt := 434) (h14.mp c411) dL_agrees_427 (by decide) rfl ?_
          refine j_iconst (pc' := 431) (v := nI 1) dL_agrees_430 rfl rfl ?_
          refine j_goto (tgt := 435) dL_agrees_431 (by decide) ?_
          refine j_icmpF_ne (pc' := 438) (tgt := 454) (by decide) dL_agrees_435 (by decide) rfl ?_
          exact kk
      ·
        refine j_aload_n (pc' := 439) dL_agrees_438 rfl rfl ?_
        refine j_iload (pc' := 441) dL_agrees_439 rfl rfl ?_
        refine j_bipush (pc' := 443) (v := nI 14) dL_agrees_441 rfl rfl ?_
        refine j_cVi (pc' := 446) m_L_31 (p_point hD hV (by omega) (by omega) (a := v (176 + 56 * i + 14)) ((fPt_w hV.z h16 hi (show 14 < 15 from by omega)))) Kd (by decide) rfl rfl rfl ⟨Nat.le_of_ble_eq_true rfl, Nat.le_of_ble_eq_true rfl⟩ ⟨Nat.le_of_ble_eq_true rfl, Nat.le_of_ble_eq_true rfl⟩ (Nat.le_of_ble_eq_true rfl) dL_agrees_443 rfl (fun x1 J1 hq => ?_)
        obtain ⟨hx, hI⟩ := hq
        rw [hx, hI]
        refine jx_cut (B := jx_J E l cL_agrees 13 (some .boolean) RL false rmA 1 5 (fun v' n' kd' R' I' => v' = some (.int (nI 1)) ∧ LZ kd' R' I' d k T B) 1 5 n kd R I2 456 [some (.ref d), some (.int (nI k)), some (.ref a), some (.int ((cntF v 0 i) + (nI 1))), some (.int ((cntF v 6 i) + (nI 0))), some (.int ((cntF v 7 i) + (nI 0))), some (.int ((sm v i) + (v (176 + 56 * i + 14)))), some (.int (nI T)), some (.int (nI i)), some (.int (nI 2)), some (.int (nI 1)), some (.int (nI 1)), some (.int (nI 1))] []) (fun kk => ?_) ?_
        ·
          refine j_if_ne (pc' := 449) (tgt := 456) dL_agrees_446 rfl (by decide) (fun c446 => ?_) (fun c446 => ?_)
          ·
            exact kk
          ·
            exact absurd (hal c446) (by rw [h9, h10]; decide)
        ·
          refine j_iincN (pc' := 459) (lv' := [_, _, _, _, _, _, _, _, _, _, _, _, _]) dL_agrees_456 rfl rfl (by decide) rfl ?_
          refine j_goto (tgt := 25) dL_agrees_459 (by decide) ?_
          have e0 : cntF v 0 (i + 1) = cntF v 0 i + nI 1 := cnt_t (by rw [cC0]; exact hst)
          have e6 : cntF v 6 (i + 1) = cntF v 6 i + nI 0 := cnt_f (by rw [cC6]; exact decide_eq_false (fun z => z hsh))
          have e7 : cntF v 7 (i + 1) = cntF v 7 i + nI 0 := cnt_f (by rw [cC7]; exact decide_eq_false (by rw [h10]; decide))
          refine j_eqLA e0 e6 e7 ?_
          exact ih (i + 1) I2 _ _ _ _ (by omega) (by omega) hD hA2
set_option maxRecDepth 100000 in
set_option maxHeartbeats 4000000 in
theorem ag_11_30 {E : jx_E} {l : Launch} {n : Nat} {kd : jx_K} {R : jx_R} {d : Nat} {v p : Nat → Int32} {q B k T S N : Nat} {i a : Nat} {I : jx_I} {y9 y10 y11 y12 : Option Value} (hV : VI v k T S N) (hN : N ≤ B) (hB : B + 100000 < 2147483000) (hP : PI v k T) (hi : i < k) (hka : kd a = (7, 5)) (hda : d + 344 ≤ a) (ih : ∀ (j : Nat) (I : jx_I) (y9 y10 y11 y12 : Option Value), i < j → j ≤ k → DK kd R I d v p q B → (∀ w, w < 5 → I a w = cntF v (w + 1) j) → jx_J E l cL_agrees 13 (some .boolean) RL false rmA 1 5 (fun v' n' kd' R' I' => v' = some (.int (nI 1)) ∧ LZ kd' R' I' d k T B) 1 5 n kd R I 25 [some (.ref d), some (.int (nI k)), some (.ref a), some (.int (cntF v 0 j)), some (.int (cntF v 6 j)), some (.int (cntF v 7 j)), some (.int (sm v j)), some (.int (nI T)), some (.int (nI j)), y9, y10, y11, y12] []) (hD : DK kd R I d v p q B) (hA : ∀ w, w < 5 → I a w = cntF v (w + 1) i) (h9 : v (176 + 56 * i + 9) = nI 1) (h10 : v (176 + 56 * i + 10) = nI 1) (hst : sStand v i = true) (hwf : WF v i 3) (hsh : v (176 + 56 * i + 13) ≤ 0) : jx_J E l cL_agrees 13 (some .boolean) RL false rmA 1 5 (fun v' n' kd' R' I' => v' = some (.int (nI 1)) ∧ LZ kd' R' I' d k T B) 1 5 n kd R I 25 [some (.ref d), some (.int (nI k)), some (.ref a), some (.int (cntF v 0 i)), some (.int (cntF v 6 i)), some (.int (cntF v 7 i)), some (.int (sm v i)), some (.int (nI T)), some (.int (nI i)), y9, y10, y11, y12] [] := by
  have h16 := hV.k16
  have Kd := hD.k5
  have hT := hV.tl
  obtain ⟨hp1, hp2⟩ := hP.1 i hi
  obtain ⟨⟨c, hc, e11⟩, aa, ll, haa, hll, e14, e12, hal0, hz⟩ := hp1
  have h14 : v (176 + 56 * i + 14) = 0 ↔ v (176 + 56 * i + 12) = 0 := by
    rw [e14, e12]
    have x1 := nI_eq (show aa < 2 ^ 31 from by omega) (show 0 < 2 ^ 31 from by omega)
    have x2 := nI_eq (show ll < 2 ^ 31 from by omega) (show 0 < 2 ^ 31 from by omega)
    exact x1.trans (hal0.trans x2.symm)
  have hal : v (176 + 56 * i + 14) = 0 → v (176 + 56 * i + 9) = nI 0 ∧ v (176 + 56 * i + 10) = nI 1 := fun z => hz ((nI_eq (show aa < 2 ^ 31 from by omega) (show 0 < 2 ^ 31 from by omega)).mp (e14.symm.trans z))
  have hgtT : ¬ v (176 + 56 * i + 13) = 0 → ¬ v (176 + 56 * i + 13) ≤ nI T := by
    intro z
    rcases hp2.2 with e | ⟨u, hu, hu2, e⟩
    · exact absurd e z
    · rw [e]; exact nI_ge hu (by omega)
  have hw0 := hwf.1
  refine j_iload (pc' := 27) dL_agrees_25 rfl rfl ?_
  refine j_iload_n (pc' := 28) dL_agrees_27 rfl rfl ?_
  refine j_icmpF_ge (pc' := 31) (tgt := 462) (nI_ge hi (by omega)) dL_agrees_28 (by decide) rfl ?_
  refine j_aload_n (pc' := 32) dL_agrees_31 rfl rfl ?_
  refine j_iload (pc' := 34) dL_agrees_32 rfl rfl ?_
  refine j_bipush (pc' := 36) (v := nI 15) dL_agrees_34 rfl rfl ?_
  refine j_cVi (pc' := 39) m_L_31 (p_point hD hV (by omega) (by omega) (a := nI 3) ((fPt_15 hV.z h16 hi).trans hw0)) Kd (by decide) rfl rfl rfl ⟨Nat.le_of_ble_eq_true rfl, Nat.le_of_ble_eq_true rfl⟩ ⟨Nat.le_of_ble_eq_true rfl, Nat.le_of_ble_eq_true rfl⟩ (Nat.le_of_ble_eq_true rfl) dL_agrees_36 rfl (fun x1 J1 hq => ?_)
  obtain ⟨hx, hI⟩ := hq
  rw [hx, hI]
  refine j_istore (pc' := 41) (lv' := [_, _, _, _, _, _, _, _, _, _, _, _, _]) dL_agrees_39 rfl (by decide) rfl ?_
  refine j_aload_n (pc' := 42) dL_agrees_41 rfl rfl ?_
  refine j_iload (pc' := 44) dL_agrees_42 rfl rfl ?_
  refine j_bipush (pc' := 46) (v := nI 9) dL_agrees_44 rfl rfl ?_
  refine j_cVi (pc' := 49) m_L_31 (p_point hD hV (by omega) (by omega) (a := nI 1) ((fPt_w hV.z h16 hi (show 9 < 15 from by omega)).trans (h9))) Kd (by decide) rfl rfl rfl ⟨Nat.le_of_ble_eq_true rfl, Nat.le_of_ble_eq_true rfl⟩ ⟨Nat.le_of_ble_eq_true rfl, Nat.le_of_ble_eq_true rfl⟩ (Nat.le_of_ble_eq_true rfl) dL_agrees_46 rfl (fun x1 J1 hq => ?_)
  obtain ⟨hx, hI⟩ := hq
  rw [hx, hI]
  refine j_iconst (pc' := 50) (v := nI 1) dL_agrees_49 rfl rfl ?_
  refine j_icmpF_ne (pc' := 53) (tgt := 57) (by decide) dL_agrees_50 (by decide) rfl ?_
  refine j_iconst (pc' := 54) (v := nI 1) dL_agrees_53 rfl rfl ?_
  refine j_goto (tgt := 58) dL_agrees_54 (by decide) ?_
  refine j_istore (pc' := 60) (lv' := [_, _, _, _, _, _, _, _, _, _, _, _, _]) dL_agrees_58 rfl (by decide) rfl ?_
  refine j_aload_n (pc' := 61) dL_agrees_60 rfl rfl ?_
  refine j_iload (pc' := 63) dL_agrees_61 rfl rfl ?_
  refine j_bipush (pc' := 65) (v := nI 10) dL_agrees_63 rfl rfl ?_
  refine j_cVi (pc' := 68) m_L_31 (p_point hD hV (by omega) (by omega) (a := nI 1) ((fPt_w hV.z h16 hi (show 10 < 15 from by omega)).trans (h10))) Kd (by decide) rfl rfl rfl ⟨Nat.le_of_ble_eq_true rfl, Nat.le_of_ble_eq_true rfl⟩ ⟨Nat.le_of_ble_eq_true rfl, Nat.le_of_ble_eq_true rfl⟩ (Nat.le_of_ble_eq_true rfl) dL_agrees_65 rfl (fun x1 J1 hq => ?_)
  obtain ⟨hx, hI⟩ := hq
  rw [hx, hI]
  refine j_iconst (pc' := 69) (v := nI 1) dL_agrees_68 rfl rfl ?_
  refine j_icmpF_ne (pc' := 72) (tgt := 76) (by decide) dL_agrees_69 (by decide) rfl ?_
  refine j_iconst (pc' := 73) (v := nI 1) dL_agrees_72 rfl rfl ?_
  refine j_goto (tgt := 77) dL_agrees_73 (by decide) ?_
  refine j_istore (pc' := 79) (lv' := [_, _, _, _, _, _, _, _, _, _, _, _, _]) dL_agrees_77 rfl (by decide) rfl ?_
  refine j_iload (pc' := 81) dL_agrees_79 rfl rfl ?_
  refine j_ifT_ne (tgt := 89) (by decide) dL_agrees_81 (by decide) ?_
  refine j_iconst (pc' := 90) (v := nI 1) dL_agrees_89 rfl rfl ?_
  refine j_goto (tgt := 94) dL_agrees_90 (by decide) ?_
  refine j_istore (pc' := 96) (lv' := [_, _, _, _, _, _, _, _, _, _, _, _, _]) dL_agrees_94 rfl (by decide) rfl ?_
  refine j_iload_n (pc' := 97) dL_agrees_96 rfl rfl ?_
  refine j_iload (pc' := 99) dL_agrees_97 rfl rfl ?_
  refine j_ifF_eq (pc' := 102) (tgt := 106) (by decide) dL_agrees_99 (by decide) rfl ?_
  refine j_iconst (pc' := 103) (v := nI 1) dL_agrees_102 rfl rfl ?_
  refine j_goto (tgt := 107) dL_agrees_103 (by decide) ?_
  refine j_iadd (pc' := 108) dL_agrees_107 rfl ?_
  refine j_istore_n (pc' := 109) (lv' := [_, _, _, _, _, _, _, _, _, _, _, _, _]) dL_agrees_108 rfl (by decide) rfl ?_
  refine j_iload (pc' := 111) dL_agrees_109 rfl rfl ?_
  refine j_aload_n (pc' := 112) dL_agrees_111 rfl rfl ?_
  refine j_iload (pc' := 114) dL_agrees_112 rfl rfl ?_
  refine j_bipush (pc' := 116) (v := nI 13) dL_agrees_114 rfl rfl ?_
  refine j_cVi (pc' := 119) m_L_31 (p_point hD hV (by omega) (by omega) (a := v (176 + 56 * i + 13)) ((fPt_w hV.z h16 hi (show 13 < 15 from by omega)))) Kd (by decide) rfl rfl rfl ⟨Nat.le_of_ble_eq_true rfl, Nat.le_of_ble_eq_true rfl⟩ ⟨Nat.le_of_ble_eq_true rfl, Nat.le_of_ble_eq_true rfl⟩ (Nat.le_of_ble_eq_true rfl) dL_agrees_116 rfl (fun x1 J1 hq => ?_)
  obtain ⟨hx, hI⟩ := hq
  rw [hx, hI]
  refine j_ifT_le (tgt := 126) (hsh) dL_agrees_119 (by decide) ?_
  refine j_iconst (pc' := 127) (v := nI 0) dL_agrees_126 rfl rfl ?_
  refine j_iadd (pc' := 128) dL_agrees_127 rfl ?_
  refine j_istore (pc' := 130) (lv' := [_, _, _, _, _, _, _, _, _, _, _, _, _]) dL_agrees_128 rfl (by decide) rfl ?_
  refine j_iload (pc' := 132) dL_agrees_130 rfl rfl ?_
  refine j_iload (pc' := 134) dL_agrees_132 rfl rfl ?_
  refine j_ifF_eq (pc' := 137) (tgt := 141) (by decide) dL_agrees_134 (by decide) rfl ?_
  refine j_iconst (pc' := 138) (v := nI 0) dL_agrees_137 rfl rfl ?_
  refine j_goto (tgt := 142) dL_agrees_138 (by decide) ?_
  refine j_iadd (pc' := 143) dL_agrees_142 rfl ?_
  refine j_istore (pc' := 145) (lv' := [_, _, _, _, _, _, _, _, _, _, _, _, _]) dL_agrees_143 rfl (by decide) rfl ?_
  refine j_iload (pc' := 147) dL_agrees_145 rfl rfl ?_
  refine j_aload_n (pc' := 148) dL_agrees_147 rfl rfl ?_
  refine j_iload (pc' := 150) dL_agrees_148 rfl rfl ?_
  refine j_bipush (pc' := 152) (v := nI 14) dL_agrees_150 rfl rfl ?_
  refine j_cVi (pc' := 155) m_L_31 (p_point hD hV (by omega) (by omega) (a := v (176 + 56 * i + 14)) ((fPt_w hV.z h16 hi (show 14 < 15 from by omega)))) Kd (by decide) rfl rfl rfl ⟨Nat.le_of_ble_eq_true rfl, Nat.le_of_ble_eq_true rfl⟩ ⟨Nat.le_of_ble_eq_true rfl, Nat.le_of_ble_eq_true rfl⟩ (Nat.le_of_ble_eq_true rfl) dL_agrees_152 rfl (fun x1 J1 hq => ?_)
  obtain ⟨hx, hI⟩ := hq
  rw [hx, hI]
  refine j_iadd (pc' := 156) dL_agrees_155 rfl ?_
  refine j_istore (pc' := 158) (lv' := [_, _, _, _, _, _, _, _, _, _, _, _, _]) dL_agrees_156 rfl (by decide) rfl ?_
  refine j_iload (pc' := 160) dL_agrees_158 rfl rfl ?_
  refine j_ifF_eq (pc' := 163) (tgt := 177) (by decide) dL_agrees_160 (by decide) rfl ?_
  refine j_iload (pc' := 165) dL_agrees_163 rfl rfl ?_
  refine j_ifF_lt (pc' := 168) (tgt := 185) (by decide) dL_agrees_165 (by decide) rfl ?_
  refine j_iload (pc' := 170) dL_agrees_168 rfl rfl ?_
  refine j_iconst (pc' := 171) (v := nI 4) dL_agrees_170 rfl rfl ?_
  refine j_icmpT_le (tgt := 187) (by decide) dL_agrees_171 (by decide) ?_
  refine j_aload_n (pc' := 188) dL_agrees_187 rfl rfl ?_
  refine j_iload (pc' := 190) dL_agrees_188 rfl rfl ?_
  refine j_ifT_ge (tgt := 197) (by decide) dL_agrees_190 (by decide) ?_
  refine j_iload (pc' := 199) dL_agrees_197 rfl rfl ?_
  refine j_dup2 (pc' := 200) dL_agrees_199 rfl rfl rfl ?_
  refine j_ialdv (pc' := 201) hka rfl (by decide) (by decide) (hA _ (by decide)) dL_agrees_200 rfl ?_
  refine j_iload (pc' := 203) dL_agrees_201 rfl rfl ?_
  refine j_ifF_eq (pc' := 206) (tgt := 210) (by decide) dL_agrees_203 (by decide) rfl ?_
  refine j_iconst (pc' := 207) (v := nI 1) dL_agrees_206 rfl rfl ?_
  refine j_goto (tgt := 211) dL_agrees_207 (by decide) ?_
  refine j_iadd (pc' := 212) dL_agrees_211 rfl ?_
  refine j_iast (pc' := 213) hka rfl (by decide) (by decide) dL_agrees_212 rfl ?_
  have hD2 := hD.upA (j := 3) (x := cntF v 4 i + nI 1) hda
  have hA2 := why_up (a := a) (by decide) hw0 hA
  change jx_J E l cL_agrees 13 (some .boolean) RL false rmA 1 5 (fun v' n' kd' R' I' => v' = some (.int (nI 1)) ∧ LZ kd' R' I' d k T B) 1 5 n kd R (jx_up I a 3 (cntF v 4 i + nI 1)) 213 _ _
  generalize jx_up I a 3 (cntF v 4 i + nI 1) = I2 at hD2 hA2 ⊢
  have hD := hD2
  refine j_aload_n (pc' := 214) dL_agrees_213 rfl rfl ?_
  refine j_iload (pc' := 216) dL_agrees_214 rfl rfl ?_
  refine j_iconst (pc' := 217) (v := nI 5) dL_agrees_216 rfl rfl ?_
  refine j_cVi (pc' := 220) m_L_31 (p_point hD hV (by omega) (by omega) (a := v (176 + 56 * i + 5)) ((fPt_w hV.z h16 hi (show 5 < 15 from by omega)))) Kd (by decide) rfl rfl rfl ⟨Nat.le_of_ble_eq_true rfl, Nat.le_of_ble_eq_true rfl⟩ ⟨Nat.le_of_ble_eq_true rfl, Nat.le_of_ble_eq_true rfl⟩ (Nat.le_of_ble_eq_true rfl) dL_agrees_217 rfl (fun x1 J1 hq => ?_)
  obtain ⟨hx, hI⟩ := hq
  rw [hx, hI]
  refine j_iconst (pc' := 221) (v := nI 1) dL_agrees_220 rfl rfl ?_
  refine j_icmpT_ne (tgt := 240) (hwf.2.2.2.1 (by omega)) dL_agrees_221 (by decide) ?_
  refine j_aload_n (pc' := 241) dL_agrees_240 rfl rfl ?_
  refine j_iload (pc' := 243) dL_agrees_241 rfl rfl ?_
  refine j_bipush (pc' := 245) (v := nI 13) dL_agrees_243 rfl rfl ?_
  refine j_cVi (pc' := 248) m_L_31 (p_point hD hV (by omega) (by omega) (a := v (176 + 56 * i + 13)) ((fPt_w hV.z h16 hi (show 13 < 15 from by omega)))) Kd (by decide) rfl rfl rfl ⟨Nat.le_of_ble_eq_true rfl, Nat.le_of_ble_eq_true rfl⟩ ⟨Nat.le_of_ble_eq_true rfl, Nat.le_of_ble_eq_true rfl⟩ (Nat.le_of_ble_eq_true rfl) dL_agrees_245 rfl (fun x1 J1 hq => ?_)
  obtain ⟨hx, hI⟩ := hq
  rw [hx, hI]
  refine jx_cut (B := jx_J E l cL_agrees 13 (some .boolean) RL false rmA 1 5 (fun v' n' kd' R' I' => v' = some (.int (nI 1)) ∧ LZ kd' R' I' d k T B) 1 5 n kd R I2 264 [some (.ref d), some (.int (nI k)), some (.ref a), some (.int ((cntF v 0 i) + (nI 1))), some (.int ((cntF v 6 i) + (nI 0))), some (.int ((cntF v 7 i) + (nI 0))), some (.int ((sm v i) + (v (176 + 56 * i + 14)))), some (.int (nI T)), some (.int (nI i)), some (.int (nI 3)), some (.int (nI 1)), some (.int (nI 1)), some (.int (nI 1))] []) (fun kk => ?_) ?_
  ·
    refine j_if_eq (pc' := 251) (tgt := 264) dL_agrees_248 rfl (by decide) (fun c248 => ?_) (fun c248 => ?_)
    ·
      exact kk
    ·
      refine j_aload_n (pc' := 252) dL_agrees_251 rfl rfl ?_
      refine j_iload (pc' := 254) dL_agrees_252 rfl rfl ?_
      refine j_bipush (pc' := 256) (v := nI 13) dL_agrees_254 rfl rfl ?_
      refine j_cVi (pc' := 259) m_L_31 (p_point hD hV (by omega) (by omega) (a := v (176 + 56 * i + 13)) ((fPt_w hV.z h16 hi (show 13 < 15 from by omega)))) Kd (by decide) rfl rfl rfl ⟨Nat.le_of_ble_eq_true rfl, Nat.le_of_ble_eq_true rfl⟩ ⟨Nat.le_of_ble_eq_true rfl, Nat.le_of_ble_eq_true rfl⟩ (Nat.le_of_ble_eq_true rfl) dL_agrees_256 rfl (fun x1 J1 hq => ?_)
      obtain ⟨hx, hI⟩ := hq
      rw [hx, hI]
      refine j_iload (pc' := 261) dL_agrees_259 rfl rfl ?_
      refine j_icmpF_le (pc' := 264) (tgt := 348) (hgtT c248) dL_agrees_261 (by decide) rfl ?_
      exact kk
  ·
    refine j_iload (pc' := 266) dL_agrees_264 rfl rfl ?_
    refine j_iconst (pc' := 267) (v := nI 1) dL_agrees_266 rfl rfl ?_
    refine j_icmpT_ne (tgt := 281) (by decide) dL_agrees_267 (by decide) ?_
    refine j_iload (pc' := 283) dL_agrees_281 rfl rfl ?_
    refine j_iconst (pc' := 284) (v := nI 2) dL_agrees_283 rfl rfl ?_
    refine j_icmpT_ne (tgt := 306) (by decide) dL_agrees_284 (by decide) ?_
    refine j_iload (pc' := 308) dL_agrees_306 rfl rfl ?_
    refine j_iconst (pc' := 309) (v := nI 3) dL_agrees_308 rfl rfl ?_
    refine j_icmpF_ne (pc' := 312) (tgt := 323) (by decide) dL_agrees_309 (by decide) rfl ?_
    refine j_aload_n (pc' := 313) dL_agrees_312 rfl rfl ?_
    refine j_iload (pc' := 315) dL_agrees_313 rfl rfl ?_
    refine j_bipush (pc' := 317) (v := nI 8) dL_agrees_315 rfl rfl ?_
    refine j_cVi (pc' := 320) m_L_31 (p_point hD hV (by omega) (by omega) (a := v (176 + 56 * i + 8)) ((fPt_w hV.z h16 hi (show 8 < 15 from by omega)))) Kd (by decide) rfl rfl rfl ⟨Nat.le_of_ble_eq_true rfl, Nat.le_of_ble_eq_true rfl⟩ ⟨Nat.le_of_ble_eq_true rfl, Nat.le_of_ble_eq_true rfl⟩ (Nat.le_of_ble_eq_true rfl) dL_agrees_317 rfl (fun x1 J1 hq => ?_)
    obtain ⟨hx, hI⟩ := hq
    rw [hx, hI]
    refine j_ifF_lt (pc' := 323) (tgt := 348) (hwf.2.2.2.2.2.1 rfl) dL_agrees_320 (by decide) rfl ?_
    refine j_iload (pc' := 325) dL_agrees_323 rfl rfl ?_
    refine j_iconst (pc' := 326) (v := nI 4) dL_agrees_325 rfl rfl ?_
    refine j_icmpT_ne (tgt := 350) (by decide) dL_agrees_326 (by decide) ?_
    refine j_aload_n (pc' := 351) dL_agrees_350 rfl rfl ?_
    refine j_iload (pc' := 353) dL_agrees_351 rfl rfl ?_
    refine j_bipush (pc' := 355) (v := nI 11) dL_agrees_353 rfl rfl ?_
    refine j_cVi (pc' := 358) m_L_31 (p_point hD hV (by omega) (by omega) (a := v (176 + 56 * i + 11)) ((fPt_w hV.z h16 hi (show 11 < 15 from by omega)))) Kd (by decide) rfl rfl rfl ⟨Nat.le_of_ble_eq_true rfl, Nat.le_of_ble_eq_true rfl⟩ ⟨Nat.le_of_ble_eq_true rfl, Nat.le_of_ble_eq_true rfl⟩ (Nat.le_of_ble_eq_true rfl) dL_agrees_355 rfl (fun x1 J1 hq => ?_)
    obtain ⟨hx, hI⟩ := hq
    rw [hx, hI]
    refine j_aload_n (pc' := 359) dL_agrees_358 rfl rfl ?_
    refine j_iload (pc' := 361) dL_agrees_359 rfl rfl ?_
    refine j_iload (pc' := 363) dL_agrees_361 rfl rfl ?_
    refine j_ifF_eq (pc' := 366) (tgt := 370) (by decide) dL_agrees_363 (by decide) rfl ?_
    refine j_iconst (pc' := 367) (v := nI 4) dL_agrees_366 rfl rfl ?_
    refine j_goto (tgt := 371) dL_agrees_367 (by decide) ?_
    refine j_cVi (pc' := 374) m_L_31 (p_point hD hV (by omega) (by omega) (a := v (176 + 56 * i + 4)) ((fPt_w hV.z h16 hi (show 4 < 15 from by omega)))) Kd (by decide) rfl rfl rfl ⟨Nat.le_of_ble_eq_true rfl, Nat.le_of_ble_eq_true rfl⟩ ⟨Nat.le_of_ble_eq_true rfl, Nat.le_of_ble_eq_true rfl⟩ (Nat.le_of_ble_eq_true rfl) dL_agrees_371 rfl (fun x1 J1 hq => ?_)
    obtain ⟨hx, hI⟩ := hq
    rw [hx, hI]
    refine jx_cut (B := jx_J E l cL_agrees 13 (some .boolean) RL false rmA 1 5 (fun v' n' kd' R' I' => v' = some (.int (nI 1)) ∧ LZ kd' R' I' d k T B) 1 5 n kd R I2 390 [some (.ref d), some (.int (nI k)), some (.ref a), some (.int ((cntF v 0 i) + (nI 1))), some (.int ((cntF v 6 i) + (nI 0))), some (.int ((cntF v 7 i) + (nI 0))), some (.int ((sm v i) + (v (176 + 56 * i + 14)))), some (.int (nI T)), some (.int (nI i)), some (.int (nI 3)), some (.int (nI 1)), some (.int (nI 1)), some (.int (nI 1))] []) (fun kk => ?_) ?_
    ·
      refine j_icmp_le (pc' := 377) (tgt := 390) dL_agrees_374 rfl (by decide) (fun c374 => ?_) (fun c374 => ?_)
      ·
        exact kk
      ·
        refine j_aload_n (pc' := 378) dL_agrees_377 rfl rfl ?_
        refine j_iload (pc' := 380) dL_agrees_378 rfl rfl ?_
        refine j_bipush (pc' := 382) (v := nI 11) dL_agrees_380 rfl rfl ?_
        refine j_cVi (pc' := 385) m_L_31 (p_point hD hV (by omega) (by omega) (a := nI c) ((fPt_w hV.z h16 hi (show 11 < 15 from by omega)).trans (e11))) Kd (by decide) rfl rfl rfl ⟨Nat.le_of_ble_eq_true rfl, Nat.le_of_ble_eq_true rfl⟩ ⟨Nat.le_of_ble_eq_true rfl, Nat.le_of_ble_eq_true rfl⟩ (Nat.le_of_ble_eq_true rfl) dL_agrees_382 rfl (fun x1 J1 hq => ?_)
        obtain ⟨hx, hI⟩ := hq
        rw [hx, hI]
        refine j_bipush (pc' := 387) (v := nI 20) dL_agrees_385 rfl rfl ?_
        refine j_icmpF_gt (pc' := 390) (tgt := 454) (nI_nlt (by omega) (by omega)) dL_agrees_387 (by decide) rfl ?_
        exact kk
    ·
      refine j_aload_n (pc' := 391) dL_agrees_390 rfl rfl ?_
      refine j_iload (pc' := 393) dL_agrees_391 rfl rfl ?_
      refine j_bipush (pc' := 395) (v := nI 12) dL_agrees_393 rfl rfl ?_
      refine j_cVi (pc' := 398) m_L_31 (p_point hD hV (by omega) (by omega) (a := nI ll) ((fPt_w hV.z h16 hi (show 12 < 15 from by omega)).trans (e12))) Kd (by decide) rfl rfl rfl ⟨Nat.le_of_ble_eq_true rfl, Nat.le_of_ble_eq_true rfl⟩ ⟨Nat.le_of_ble_eq_true rfl, Nat.le_of_ble_eq_true rfl⟩ (Nat.le_of_ble_eq_true rfl) dL_agrees_395 rfl (fun x1 J1 hq => ?_)
      obtain ⟨hx, hI⟩ := hq
      rw [hx, hI]
      refine j_iload (pc' := 400) dL_agrees_398 rfl rfl ?_
      refine j_icmpF_gt (pc' := 403) (tgt := 454) (nI_nlt (by omega) (by omega)) dL_agrees_400 (by decide) rfl ?_
      refine j_aload_n (pc' := 404) dL_agrees_403 rfl rfl ?_
      refine j_iload (pc' := 406) dL_agrees_404 rfl rfl ?_
      refine j_bipush (pc' := 408) (v := nI 14) dL_agrees_406 rfl rfl ?_
      refine j_cVi (pc' := 411) m_L_31 (p_point hD hV (by omega) (by omega) (a := v (176 + 56 * i + 14)) ((fPt_w hV.z h16 hi (show 14 < 15 from by omega)))) Kd (by decide) rfl rfl rfl ⟨Nat.le_of_ble_eq_true rfl, Nat.le_of_ble_eq_true rfl⟩ ⟨Nat.le_of_ble_eq_true rfl, Nat.le_of_ble_eq_true rfl⟩ (Nat.le_of_ble_eq_true rfl) dL_agrees_408 rfl (fun x1 J1 hq => ?_)
      obtain ⟨hx, hI⟩ := hq
      rw [hx, hI]
      refine jx_cut (B := jx_J E l cL_agrees 13 (some .boolean) RL false rmA 1 5 (fun v' n' kd' R' I' => v' = some (.int (nI 1)) ∧ LZ kd' R' I' d k T B) 1 5 n kd R I2 438 [some (.ref d), some (.int (nI k)), some (.ref a), some (.int ((cntF v 0 i) + (nI 1))), some (.int ((cntF v 6 i) + (nI 0))), some (.int ((cntF v 7 i) + (nI 0))), some (.int ((sm v i) + (v (176 + 56 * i + 14)))), some (.int (nI T)), some (.int (nI i)), some (.int (nI 3)), some (.int (nI 1)), some (.int (nI 1)), some (.int (nI 1))] []) (fun kk => ?_) ?_
      ·
        refine j_if_ne (pc' := 414) (tgt := 418) dL_agrees_411 rfl (by decide) (fun c411 => ?_) (fun c411 => ?_)
        ·
          refine j_iconst (pc' := 419) (v := nI 0) dL_agrees_418 rfl rfl ?_
          refine j_aload_n (pc' := 420) dL_agrees_419 rfl rfl ?_
          refine j_iload (pc' := 422) dL_agrees_420 rfl rfl ?_
          refine j_bipush (pc' := 424) (v := nI 12) dL_agrees_422 rfl rfl ?_
          refine j_cVi (pc' := 427) m_L_31 (p_point hD hV (by omega) (by omega) (a := v (176 + 56 * i + 12)) ((fPt_w hV.z h16 hi (show 12 < 15 from by omega)))) Kd (by decide) rfl rfl rfl ⟨Nat.le_of_ble_eq_true rfl, Nat.le_of_ble_eq_true rfl⟩ ⟨Nat.le_of_ble_eq_true rfl, Nat.le_of_ble_eq_true rfl⟩ (Nat.le_of_ble_eq_true rfl) dL_agrees_424 rfl (fun x1 J1 hq => ?_)
          obtain ⟨hx, hI⟩ := hq
          rw [hx, hI]
          refine j_ifT_ne (tgt := 434) (fun z => c411 (h14.mpr z)) dL_agrees_427 (by decide) ?_
          refine j_iconst (pc' := 435) (v := nI 0) dL_agrees_434 rfl rfl ?_
          refine j_icmpF_ne (pc' := 438) (tgt := 454) (by decide) dL_agrees_435 (by decide) rfl ?_
          exact kk
        ·
          refine j_iconst (pc' := 415) (v := nI 1) dL_agrees_414 rfl rfl ?_
          refine j_goto (tgt := 419) dL_agrees_415 (by decide) ?_
          refine j_aload_n (pc' := 420) dL_agrees_419 rfl rfl ?_
          refine j_iload (pc' := 422) dL_agrees_420 rfl rfl ?_
          refine j_bipush (pc' := 424) (v := nI 12) dL_agrees_422 rfl rfl ?_
          refine j_cVi (pc' := 427) m_L_31 (p_point hD hV (by omega) (by omega) (a := v (176 + 56 * i + 12)) ((fPt_w hV.z h16 hi (show 12 < 15 from by omega)))) Kd (by decide) rfl rfl rfl ⟨Nat.le_of_ble_eq_true rfl, Nat.le_of_ble_eq_true rfl⟩ ⟨Nat.le_of_ble_eq_true rfl, Nat.le_of_ble_eq_true rfl⟩ (Nat.le_of_ble_eq_true rfl) dL_agrees_424 rfl (fun x1 J1 hq => ?_)
          obtain ⟨hx, hI⟩ := hq
          rw [hx, hI]
          refine j_ifF_ne (pc' := 430) (tgt := 434) (h14.mp c411) dL_agrees_427 (by decide) rfl ?_
          refine j_iconst (pc' := 431) (v := nI 1) dL_agrees_430 rfl rfl ?_
          refine j_goto (tgt := 435) dL_agrees_431 (by decide) ?_
          refine j_icmpF_ne (pc' := 438) (tgt := 454) (by decide) dL_agrees_435 (by decide) rfl ?_
          exact kk
      ·
        refine j_aload_n (pc' := 439) dL_agrees_438 rfl rfl ?_
        refine j_iload (pc' := 441) dL_agrees_439 rfl rfl ?_
        refine j_bipush (pc' := 443) (v := nI 14) dL_agrees_441 rfl rfl ?_
        refine j_cVi (pc' := 446) m_L_31 (p_point hD hV (by omega) (by omega) (a := v (176 + 56 * i + 14)) ((fPt_w hV.z h16 hi (show 14 < 15 from by omega)))) Kd (by decide) rfl rfl rfl ⟨Nat.le_of_ble_eq_true rfl, Nat.le_of_ble_eq_true rfl⟩ ⟨Nat.le_of_ble_eq_true rfl, Nat.le_of_ble_eq_true rfl⟩ (Nat.le_of_ble_eq_true rfl) dL_agrees_443 rfl (fun x1 J1 hq => ?_)
        obtain ⟨hx, hI⟩ := hq
        rw [hx, hI]
        refine jx_cut (B := jx_J E l cL_agrees 13 (some .boolean) RL false rmA 1 5 (fun v' n' kd' R' I' => v' = some (.int (nI 1)) ∧ LZ kd' R' I' d k T B) 1 5 n kd R I2 456 [some (.ref d), some (.int (nI k)), some (.ref a), some (.int ((cntF v 0 i) + (nI 1))), some (.int ((cntF v 6 i) + (nI 0))), some (.int ((cntF v 7 i) + (nI 0))), some (.int ((sm v i) + (v (176 + 56 * i + 14)))), some (.int (nI T)), some (.int (nI i)), some (.int (nI 3)), some (.int (nI 1)), some (.int (nI 1)), some (.int (nI 1))] []) (fun kk => ?_) ?_
        ·
          refine j_if_ne (pc' := 449) (tgt := 456) dL_agrees_446 rfl (by decide) (fun c446 => ?_) (fun c446 => ?_)
          ·
            exact kk
          ·
            exact absurd (hal c446) (by rw [h9, h10]; decide)
        ·
          refine j_iincN (pc' := 459) (lv' := [_, _, _, _, _, _, _, _, _, _, _, _, _]) dL_agrees_456 rfl rfl (by decide) rfl ?_
          refine j_goto (tgt := 25) dL_agrees_459 (by decide) ?_
          have e0 : cntF v 0 (i + 1) = cntF v 0 i + nI 1 := cnt_t (by rw [cC0]; exact hst)
          have e6 : cntF v 6 (i + 1) = cntF v 6 i + nI 0 := cnt_f (by rw [cC6]; exact decide_eq_false (fun z => z hsh))
          have e7 : cntF v 7 (i + 1) = cntF v 7 i + nI 0 := cnt_f (by rw [cC7]; exact decide_eq_false (by rw [h10]; decide))
          refine j_eqLA e0 e6 e7 ?_
          exact ih (i + 1) I2 _ _ _ _ (by omega) (by omega) hD hA2
set_option maxRecDepth 100000 in
set_option maxHeartbeats 4000000 in
theorem ag_11_40 {E : jx_E} {l : Launch} {n : Nat} {kd : jx_K} {R : jx_R} {d : Nat} {v p : Nat → Int32} {q B k T S N : Nat} {i a : Nat} {I : jx_I} {y9 y10 y11 y12 : Option Value} (hV : VI v k T S N) (hN : N ≤ B) (hB : B + 100000 < 2147483000) (hP : PI v k T) (hi : i < k) (hka : kd a = (7, 5)) (hda : d + 344 ≤ a) (ih : ∀ (j : Nat) (I : jx_I) (y9 y10 y11 y12 : Option Value), i < j → j ≤ k → DK kd R I d v p q B → (∀ w, w < 5 → I a w = cntF v (w + 1) j) → jx_J E l cL_agrees 13 (some .boolean) RL false rmA 1 5 (fun v' n' kd' R' I' => v' = some (.int (nI 1)) ∧ LZ kd' R' I' d k T B) 1 5 n kd R I 25 [some (.ref d), some (.int (nI k)), some (.ref a), some (.int (cntF v 0 j)), some (.int (cntF v 6 j)), some (.int (cntF v 7 j)), some (.int (sm v j)), some (.int (nI T)), some (.int (nI j)), y9, y10, y11, y12] []) (hD : DK kd R I d v p q B) (hA : ∀ w, w < 5 → I a w = cntF v (w + 1) i) (h9 : v (176 + 56 * i + 9) = nI 1) (h10 : v (176 + 56 * i + 10) = nI 1) (hst : sStand v i = true) (hwf : WF v i 4) (hsh : v (176 + 56 * i + 13) ≤ 0) : jx_J E l cL_agrees 13 (some .boolean) RL false rmA 1 5 (fun v' n' kd' R' I' => v' = some (.int (nI 1)) ∧ LZ kd' R' I' d k T B) 1 5 n kd R I 25 [some (.ref d), some (.int (nI k)), some (.ref a), some (.int (cntF v 0 i)), some (.int (cntF v 6 i)), some (.int (cntF v 7 i)), some (.int (sm v i)), some (.int (nI T)), some (.int (nI i)), y9, y10, y11, y12] [] := by
  have h16 := hV.k16
  have Kd := hD.k5
  have hT := hV.tl
  obtain ⟨hp1, hp2⟩ := hP.1 i hi
  obtain ⟨⟨c, hc, e11⟩, aa, ll, haa, hll, e14, e12, hal0, hz⟩ := hp1
  have h14 : v (176 + 56 * i + 14) = 0 ↔ v (176 + 56 * i + 12) = 0 := by
    rw [e14, e12]
    have x1 := nI_eq (show aa < 2 ^ 31 from by omega) (show 0 < 2 ^ 31 from by omega)
    have x2 := nI_eq (show ll < 2 ^ 31 from by omega) (show 0 < 2 ^ 31 from by omega)
    exact x1.trans (hal0.trans x2.symm)
  have hal : v (176 + 56 * i + 14) = 0 → v (176 + 56 * i + 9) = nI 0 ∧ v (176 + 56 * i + 10) = nI 1 := fun z => hz ((nI_eq (show aa < 2 ^ 31 from by omega) (show 0 < 2 ^ 31 from by omega)).mp (e14.symm.trans z))
  have hgtT : ¬ v (176 + 56 * i + 13) = 0 → ¬ v (176 + 56 * i + 13) ≤ nI T := by
    intro z
    rcases hp2.2 with e | ⟨u, hu, hu2, e⟩
    · exact absurd e z
    · rw [e]; exact nI_ge hu (by omega)
  have hw0 := hwf.1
  have h35 : ¬ v (176 + 56 * i + 5) ≤ nI 2 → nI 3 ≤ v (176 + 56 * i + 5) := by
    intro z
    rw [Int32.le_iff_toInt_le] at z ⊢
    have x2 : (nI 2).toInt = 2 := rfl
    have x3 : (nI 3).toInt = 3 := rfl
    omega
  refine j_iload (pc' := 27) dL_agrees_25 rfl rfl ?_
  refine j_iload_n (pc' := 28) dL_agrees_27 rfl rfl ?_
  refine j_icmpF_ge (pc' := 31) (tgt := 462) (nI_ge hi (by omega)) dL_agrees_28 (by decide) rfl ?_
  refine j_aload_n (pc' := 32) dL_agrees_31 rfl rfl ?_
  refine j_iload (pc' := 34) dL_agrees_32 rfl rfl ?_
  refine j_bipush (pc' := 36) (v := nI 15) dL_agrees_34 rfl rfl ?_
  refine j_cVi (pc' := 39) m_L_31 (p_point hD hV (by omega) (by omega) (a := nI 4) ((fPt_15 hV.z h16 hi).trans hw0)) Kd (by decide) rfl rfl rfl ⟨Nat.le_of_ble_eq_true rfl, Nat.le_of_ble_eq_true rfl⟩ ⟨Nat.le_of_ble_eq_true rfl, Nat.le_of_ble_eq_true rfl⟩ (Nat.le_of_ble_eq_true rfl) dL_agrees_36 rfl (fun x1 J1 hq => ?_)
  obtain ⟨hx, hI⟩ := hq
  rw [hx, hI]
  refine j_istore (pc' := 41) (lv' := [_, _, _, _, _, _, _, _, _, _, _, _, _]) dL_agrees_39 rfl (by decide) rfl ?_
  refine j_aload_n (pc' := 42) dL_agrees_41 rfl rfl ?_
  refine j_iload (pc' := 44) dL_agrees_42 rfl rfl ?_
  refine j_bipush (pc' := 46) (v := nI 9) dL_agrees_44 rfl rfl ?_
  refine j_cVi (pc' := 49) m_L_31 (p_point hD hV (by omega) (by omega) (a := nI 1) ((fPt_w hV.z h16 hi (show 9 < 15 from by omega)).trans (h9))) Kd (by decide) rfl rfl rfl ⟨Nat.le_of_ble_eq_true rfl, Nat.le_of_ble_eq_true rfl⟩ ⟨Nat.le_of_ble_eq_true rfl, Nat.le_of_ble_eq_true rfl⟩ (Nat.le_of_ble_eq_true rfl) dL_agrees_46 rfl (fun x1 J1 hq => ?_)
  obtain ⟨hx, hI⟩ := hq
  rw [hx, hI]
  refine j_iconst (pc' := 50) (v := nI 1) dL_agrees_49 rfl rfl ?_
  refine j_icmpF_ne (pc' := 53) (tgt := 57) (by decide) dL_agrees_50 (by decide) rfl ?_
  refine j_iconst (pc' := 54) (v := nI 1) dL_agrees_53 rfl rfl ?_
  refine j_goto (tgt := 58) dL_agrees_54 (by decide) ?_
  refine j_istore (pc' := 60) (lv' := [_, _, _, _, _, _, _, _, _, _, _, _, _]) dL_agrees_58 rfl (by decide) rfl ?_
  refine j_aload_n (pc' := 61) dL_agrees_60 rfl rfl ?_
  refine j_iload (pc' := 63) dL_agrees_61 rfl rfl ?_
  refine j_bipush (pc' := 65) (v := nI 10) dL_agrees_63 rfl rfl ?_
  refine j_cVi (pc' := 68) m_L_31 (p_point hD hV (by omega) (by omega) (a := nI 1) ((fPt_w hV.z h16 hi (show 10 < 15 from by omega)).trans (h10))) Kd (by decide) rfl rfl rfl ⟨Nat.le_of_ble_eq_true rfl, Nat.le_of_ble_eq_true rfl⟩ ⟨Nat.le_of_ble_eq_true rfl, Nat.le_of_ble_eq_true rfl⟩ (Nat.le_of_ble_eq_true rfl) dL_agrees_65 rfl (fun x1 J1 hq => ?_)
  obtain ⟨hx, hI⟩ := hq
  rw [hx, hI]
  refine j_iconst (pc' := 69) (v := nI 1) dL_agrees_68 rfl rfl ?_
  refine j_icmpF_ne (pc' := 72) (tgt := 76) (by decide) dL_agrees_69 (by decide) rfl ?_
  refine j_iconst (pc' := 73) (v := nI 1) dL_agrees_72 rfl rfl ?_
  refine j_goto (tgt := 77) dL_agrees_73 (by decide) ?_
  refine j_istore (pc' := 79) (lv' := [_, _, _, _, _, _, _, _, _, _, _, _, _]) dL_agrees_77 rfl (by decide) rfl ?_
  refine j_iload (pc' := 81) dL_agrees_79 rfl rfl ?_
  refine j_ifT_ne (tgt := 89) (by decide) dL_agrees_81 (by decide) ?_
  refine j_iconst (pc' := 90) (v := nI 1) dL_agrees_89 rfl rfl ?_
  refine j_goto (tgt := 94) dL_agrees_90 (by decide) ?_
  refine j_istore (pc' := 96) (lv' := [_, _, _, _, _, _, _, _, _, _, _, _, _]) dL_agrees_94 rfl (by decide) rfl ?_
  refine j_iload_n (pc' := 97) dL_agrees_96 rfl rfl ?_
  refine j_iload (pc' := 99) dL_agrees_97 rfl rfl ?_
  refine j_ifF_eq (pc' := 102) (tgt := 106) (by decide) dL_agrees_99 (by decide) rfl ?_
  refine j_iconst (pc' := 103) (v := nI 1) dL_agrees_102 rfl rfl ?_
  refine j_goto (tgt := 107) dL_agrees_103 (by decide) ?_
  refine j_iadd (pc' := 108) dL_agrees_107 rfl ?_
  refine j_istore_n (pc' := 109) (lv' := [_, _, _, _, _, _, _, _, _, _, _, _, _]) dL_agrees_108 rfl (by decide) rfl ?_
  refine j_iload (pc' := 111) dL_agrees_109 rfl rfl ?_
  refine j_aload_n (pc' := 112) dL_agrees_111 rfl rfl ?_
  refine j_iload (pc' := 114) dL_agrees_112 rfl rfl ?_
  refine j_bipush (pc' := 116) (v := nI 13) dL_agrees_114 rfl rfl ?_
  refine j_cVi (pc' := 119) m_L_31 (p_point hD hV (by omega) (by omega) (a := v (176 + 56 * i + 13)) ((fPt_w hV.z h16 hi (show 13 < 15 from by omega)))) Kd (by decide) rfl rfl rfl ⟨Nat.le_of_ble_eq_true rfl, Nat.le_of_ble_eq_true rfl⟩ ⟨Nat.le_of_ble_eq_true rfl, Nat.le_of_ble_eq_true rfl⟩ (Nat.le_of_ble_eq_true rfl) dL_agrees_116 rfl (fun x1 J1 hq => ?_)
  obtain ⟨hx, hI⟩ := hq
  rw [hx, hI]
  refine j_ifT_le (tgt := 126) (hsh) dL_agrees_119 (by decide) ?_
  refine j_iconst (pc' := 127) (v := nI 0) dL_agrees_126 rfl rfl ?_
  refine j_iadd (pc' := 128) dL_agrees_127 rfl ?_
  refine j_istore (pc' := 130) (lv' := [_, _, _, _, _, _, _, _, _, _, _, _, _]) dL_agrees_128 rfl (by decide) rfl ?_
  refine j_iload (pc' := 132) dL_agrees_130 rfl rfl ?_
  refine j_iload (pc' := 134) dL_agrees_132 rfl rfl ?_
  refine j_ifF_eq (pc' := 137) (tgt := 141) (by decide) dL_agrees_134 (by decide) rfl ?_
  refine j_iconst (pc' := 138) (v := nI 0) dL_agrees_137 rfl rfl ?_
  refine j_goto (tgt := 142) dL_agrees_138 (by decide) ?_
  refine j_iadd (pc' := 143) dL_agrees_142 rfl ?_
  refine j_istore (pc' := 145) (lv' := [_, _, _, _, _, _, _, _, _, _, _, _, _]) dL_agrees_143 rfl (by decide) rfl ?_
  refine j_iload (pc' := 147) dL_agrees_145 rfl rfl ?_
  refine j_aload_n (pc' := 148) dL_agrees_147 rfl rfl ?_
  refine j_iload (pc' := 150) dL_agrees_148 rfl rfl ?_
  refine j_bipush (pc' := 152) (v := nI 14) dL_agrees_150 rfl rfl ?_
  refine j_cVi (pc' := 155) m_L_31 (p_point hD hV (by omega) (by omega) (a := v (176 + 56 * i + 14)) ((fPt_w hV.z h16 hi (show 14 < 15 from by omega)))) Kd (by decide) rfl rfl rfl ⟨Nat.le_of_ble_eq_true rfl, Nat.le_of_ble_eq_true rfl⟩ ⟨Nat.le_of_ble_eq_true rfl, Nat.le_of_ble_eq_true rfl⟩ (Nat.le_of_ble_eq_true rfl) dL_agrees_152 rfl (fun x1 J1 hq => ?_)
  obtain ⟨hx, hI⟩ := hq
  rw [hx, hI]
  refine j_iadd (pc' := 156) dL_agrees_155 rfl ?_
  refine j_istore (pc' := 158) (lv' := [_, _, _, _, _, _, _, _, _, _, _, _, _]) dL_agrees_156 rfl (by decide) rfl ?_
  refine j_iload (pc' := 160) dL_agrees_158 rfl rfl ?_
  refine j_ifF_eq (pc' := 163) (tgt := 177) (by decide) dL_agrees_160 (by decide) rfl ?_
  refine j_iload (pc' := 165) dL_agrees_163 rfl rfl ?_
  refine j_ifF_lt (pc' := 168) (tgt := 185) (by decide) dL_agrees_165 (by decide) rfl ?_
  refine j_iload (pc' := 170) dL_agrees_168 rfl rfl ?_
  refine j_iconst (pc' := 171) (v := nI 4) dL_agrees_170 rfl rfl ?_
  refine j_icmpT_le (tgt := 187) (by decide) dL_agrees_171 (by decide) ?_
  refine j_aload_n (pc' := 188) dL_agrees_187 rfl rfl ?_
  refine j_iload (pc' := 190) dL_agrees_188 rfl rfl ?_
  refine j_ifT_ge (tgt := 197) (by decide) dL_agrees_190 (by decide) ?_
  refine j_iload (pc' := 199) dL_agrees_197 rfl rfl ?_
  refine j_dup2 (pc' := 200) dL_agrees_199 rfl rfl rfl ?_
  refine j_ialdv (pc' := 201) hka rfl (by decide) (by decide) (hA _ (by decide)) dL_agrees_200 rfl ?_
  refine j_iload (pc' := 203) dL_agrees_201 rfl rfl ?_
  refine j_ifF_eq (pc' := 206) (tgt := 210) (by decide) dL_agrees_203 (by decide) rfl ?_
  refine j_iconst (pc' := 207) (v := nI 1) dL_agrees_206 rfl rfl ?_
  refine j_goto (tgt := 211) dL_agrees_207 (by decide) ?_
  refine j_iadd (pc' := 212) dL_agrees_211 rfl ?_
  refine j_iast (pc' := 213) hka rfl (by decide) (by decide) dL_agrees_212 rfl ?_
  have hD2 := hD.upA (j := 4) (x := cntF v 5 i + nI 1) hda
  have hA2 := why_up (a := a) (by decide) hw0 hA
  change jx_J E l cL_agrees 13 (some .boolean) RL false rmA 1 5 (fun v' n' kd' R' I' => v' = some (.int (nI 1)) ∧ LZ kd' R' I' d k T B) 1 5 n kd R (jx_up I a 4 (cntF v 5 i + nI 1)) 213 _ _
  generalize jx_up I a 4 (cntF v 5 i + nI 1) = I2 at hD2 hA2 ⊢
  have hD := hD2
  refine j_aload_n (pc' := 214) dL_agrees_213 rfl rfl ?_
  refine j_iload (pc' := 216) dL_agrees_214 rfl rfl ?_
  refine j_iconst (pc' := 217) (v := nI 5) dL_agrees_216 rfl rfl ?_
  refine j_cVi (pc' := 220) m_L_31 (p_point hD hV (by omega) (by omega) (a := v (176 + 56 * i + 5)) ((fPt_w hV.z h16 hi (show 5 < 15 from by omega)))) Kd (by decide) rfl rfl rfl ⟨Nat.le_of_ble_eq_true rfl, Nat.le_of_ble_eq_true rfl⟩ ⟨Nat.le_of_ble_eq_true rfl, Nat.le_of_ble_eq_true rfl⟩ (Nat.le_of_ble_eq_true rfl) dL_agrees_217 rfl (fun x1 J1 hq => ?_)
  obtain ⟨hx, hI⟩ := hq
  rw [hx, hI]
  refine j_iconst (pc' := 221) (v := nI 1) dL_agrees_220 rfl rfl ?_
  refine j_icmpT_ne (tgt := 240) (hwf.2.2.2.1 (by omega)) dL_agrees_221 (by decide) ?_
  refine j_aload_n (pc' := 241) dL_agrees_240 rfl rfl ?_
  refine j_iload (pc' := 243) dL_agrees_241 rfl rfl ?_
  refine j_bipush (pc' := 245) (v := nI 13) dL_agrees_243 rfl rfl ?_
  refine j_cVi (pc' := 248) m_L_31 (p_point hD hV (by omega) (by omega) (a := v (176 + 56 * i + 13)) ((fPt_w hV.z h16 hi (show 13 < 15 from by omega)))) Kd (by decide) rfl rfl rfl ⟨Nat.le_of_ble_eq_true rfl, Nat.le_of_ble_eq_true rfl⟩ ⟨Nat.le_of_ble_eq_true rfl, Nat.le_of_ble_eq_true rfl⟩ (Nat.le_of_ble_eq_true rfl) dL_agrees_245 rfl (fun x1 J1 hq => ?_)
  obtain ⟨hx, hI⟩ := hq
  rw [hx, hI]
  refine jx_cut (B := jx_J E l cL_agrees 13 (some .boolean) RL false rmA 1 5 (fun v' n' kd' R' I' => v' = some (.int (nI 1)) ∧ LZ kd' R' I' d k T B) 1 5 n kd R I2 264 [some (.ref d), some (.int (nI k)), some (.ref a), some (.int ((cntF v 0 i) + (nI 1))), some (.int ((cntF v 6 i) + (nI 0))), some (.int ((cntF v 7 i) + (nI 0))), some (.int ((sm v i) + (v (176 + 56 * i + 14)))), some (.int (nI T)), some (.int (nI i)), some (.int (nI 4)), some (.int (nI 1)), some (.int (nI 1)), some (.int (nI 1))] []) (fun kk => ?_) ?_
  ·
    refine j_if_eq (pc' := 251) (tgt := 264) dL_agrees_248 rfl (by decide) (fun c248 => ?_) (fun c248 => ?_)
    ·
      exact kk
    ·
      refine j_aload_n (pc' := 252) dL_agrees_251 rfl rfl ?_
      refine j_iload (pc' := 254) dL_agrees_252 rfl rfl ?_
      refine j_bipush (pc' := 256) (v := nI 13) dL_agrees_254 rfl rfl ?_
      refine j_cVi (pc' := 259) m_L_31 (p_point hD hV (by omega) (by omega) (a := v (176 + 56 * i + 13)) ((fPt_w hV.z h16 hi (show 13 < 15 from by omega)))) Kd (by decide) rfl rfl rfl ⟨Nat.le_of_ble_eq_true rfl, Nat.le_of_ble_eq_true rfl⟩ ⟨Nat.le_of_ble_eq_true rfl, Nat.le_of_ble_eq_true rfl⟩ (Nat.le_of_ble_eq_true rfl) dL_agrees_256 rfl (fun x1 J1 hq => ?_)
      obtain ⟨hx, hI⟩ := hq
      rw [hx, hI]
      refine j_iload (pc' := 261) dL_agrees_259 rfl rfl ?_
      refine j_icmpF_le (pc' := 264) (tgt := 348) (hgtT c248) dL_agrees_261 (by decide) rfl ?_
      exact kk
  ·
    refine j_iload (pc' := 266) dL_agrees_264 rfl rfl ?_
    refine j_iconst (pc' := 267) (v := nI 1) dL_agrees_266 rfl rfl ?_
    refine j_icmpT_ne (tgt := 281) (by decide) dL_agrees_267 (by decide) ?_
    refine j_iload (pc' := 283) dL_agrees_281 rfl rfl ?_
    refine j_iconst (pc' := 284) (v := nI 2) dL_agrees_283 rfl rfl ?_
    refine j_icmpT_ne (tgt := 306) (by decide) dL_agrees_284 (by decide) ?_
    refine j_iload (pc' := 308) dL_agrees_306 rfl rfl ?_
    refine j_iconst (pc' := 309) (v := nI 3) dL_agrees_308 rfl rfl ?_
    refine j_icmpT_ne (tgt := 323) (by decide) dL_agrees_309 (by decide) ?_
    refine j_iload (pc' := 325) dL_agrees_323 rfl rfl ?_
    refine j_iconst (pc' := 326) (v := nI 4) dL_agrees_325 rfl rfl ?_
    refine j_icmpF_ne (pc' := 329) (tgt := 350) (by decide) dL_agrees_326 (by decide) rfl ?_
    refine j_aload_n (pc' := 330) dL_agrees_329 rfl rfl ?_
    refine j_iconst (pc' := 331) (v := nI 2) dL_agrees_330 rfl rfl ?_
    refine j_cVi (pc' := 334) m_L_44 (p_plant hD hV (by omega) (by omega) (a := v 3) (fPl_2)) Kd (by decide) rfl rfl rfl ⟨Nat.le_of_ble_eq_true rfl, Nat.le_of_ble_eq_true rfl⟩ ⟨Nat.le_of_ble_eq_true rfl, Nat.le_of_ble_eq_true rfl⟩ (Nat.le_of_ble_eq_true rfl) dL_agrees_331 rfl (fun x1 J1 hq => ?_)
    obtain ⟨hx, hI⟩ := hq
    rw [hx, hI]
    refine j_ifF_eq (pc' := 337) (tgt := 348) (by rw [(hwf.2.2.2.2.2.2 rfl).1]; decide) dL_agrees_334 (by decide) rfl ?_
    refine j_aload_n (pc' := 338) dL_agrees_337 rfl rfl ?_
    refine j_iload (pc' := 340) dL_agrees_338 rfl rfl ?_
    refine j_iconst (pc' := 341) (v := nI 5) dL_agrees_340 rfl rfl ?_
    refine j_cVi (pc' := 344) m_L_31 (p_point hD hV (by omega) (by omega) (a := v (176 + 56 * i + 5)) ((fPt_w hV.z h16 hi (show 5 < 15 from by omega)))) Kd (by decide) rfl rfl rfl ⟨Nat.le_of_ble_eq_true rfl, Nat.le_of_ble_eq_true rfl⟩ ⟨Nat.le_of_ble_eq_true rfl, Nat.le_of_ble_eq_true rfl⟩ (Nat.le_of_ble_eq_true rfl) dL_agrees_341 rfl (fun x1 J1 hq => ?_)
    obtain ⟨hx, hI⟩ := hq
    rw [hx, hI]
    refine j_iconst (pc' := 345) (v := nI 3) dL_agrees_344 rfl rfl ?_
    refine j_icmpT_ge (tgt := 350) (h35 (hwf.2.2.2.2.2.2 rfl).2) dL_agrees_345 (by decide) ?_
    refine j_aload_n (pc' := 351) dL_agrees_350 rfl rfl ?_
    refine j_iload (pc' := 353) dL_agrees_351 rfl rfl ?_
    refine j_bipush (pc' := 355) (v := nI 11) dL_agrees_353 rfl rfl ?_
    refine j_cVi (pc' := 358) m_L_31 (p_point hD hV (by omega) (by omega) (a := v (176 + 56 * i + 11)) ((fPt_w hV.z h16 hi (show 11 < 15 from by omega)))) Kd (by decide) rfl rfl rfl ⟨Nat.le_of_ble_eq_true rfl, Nat.le_of_ble_eq_true rfl⟩ ⟨Nat.le_of_ble_eq_true rfl, Nat.le_of_ble_eq_true rfl⟩ (Nat.le_of_ble_eq_true rfl) dL_agrees_355 rfl (fun x1 J1 hq => ?_)
    obtain ⟨hx, hI⟩ := hq
    rw [hx, hI]
    refine j_aload_n (pc' := 359) dL_agrees_358 rfl rfl ?_
    refine j_iload (pc' := 361) dL_agrees_359 rfl rfl ?_
    refine j_iload (pc' := 363) dL_agrees_361 rfl rfl ?_
    refine j_ifF_eq (pc' := 366) (tgt := 370) (by decide) dL_agrees_363 (by decide) rfl ?_
    refine j_iconst (pc' := 367) (v := nI 4) dL_agrees_366 rfl rfl ?_
    refine j_goto (tgt := 371) dL_agrees_367 (by decide) ?_
    refine j_cVi (pc' := 374) m_L_31 (p_point hD hV (by omega) (by omega) (a := v (176 + 56 * i + 4)) ((fPt_w hV.z h16 hi (show 4 < 15 from by omega)))) Kd (by decide) rfl rfl rfl ⟨Nat.le_of_ble_eq_true rfl, Nat.le_of_ble_eq_true rfl⟩ ⟨Nat.le_of_ble_eq_true rfl, Nat.le_of_ble_eq_true rfl⟩ (Nat.le_of_ble_eq_true rfl) dL_agrees_371 rfl (fun x1 J1 hq => ?_)
    obtain ⟨hx, hI⟩ := hq
    rw [hx, hI]
    refine jx_cut (B := jx_J E l cL_agrees 13 (some .boolean) RL false rmA 1 5 (fun v' n' kd' R' I' => v' = some (.int (nI 1)) ∧ LZ kd' R' I' d k T B) 1 5 n kd R I2 390 [some (.ref d), some (.int (nI k)), some (.ref a), some (.int ((cntF v 0 i) + (nI 1))), some (.int ((cntF v 6 i) + (nI 0))), some (.int ((cntF v 7 i) + (nI 0))), some (.int ((sm v i) + (v (176 + 56 * i + 14)))), some (.int (nI T)), some (.int (nI i)), some (.int (nI 4)), some (.int (nI 1)), some (.int (nI 1)), some (.int (nI 1))] []) (fun kk => ?_) ?_
    ·
      refine j_icmp_le (pc' := 377) (tgt := 390) dL_agrees_374 rfl (by decide) (fun c374 => ?_) (fun c374 => ?_)
      ·
        exact kk
      ·
        refine j_aload_n (pc' := 378) dL_agrees_377 rfl rfl ?_
        refine j_iload (pc' := 380) dL_agrees_378 rfl rfl ?_
        refine j_bipush (pc' := 382) (v := nI 11) dL_agrees_380 rfl rfl ?_
        refine j_cVi (pc' := 385) m_L_31 (p_point hD hV (by omega) (by omega) (a := nI c) ((fPt_w hV.z h16 hi (show 11 < 15 from by omega)).trans (e11))) Kd (by decide) rfl rfl rfl ⟨Nat.le_of_ble_eq_true rfl, Nat.le_of_ble_eq_true rfl⟩ ⟨Nat.le_of_ble_eq_true rfl, Nat.le_of_ble_eq_true rfl⟩ (Nat.le_of_ble_eq_true rfl) dL_agrees_382 rfl (fun x1 J1 hq => ?_)
        obtain ⟨hx, hI⟩ := hq
        rw [hx, hI]
        refine j_bipush (pc' := 387) (v := nI 20) dL_agrees_385 rfl rfl ?_
        refine j_icmpF_gt (pc' := 390) (tgt := 454) (nI_nlt (by omega) (by omega)) dL_agrees_387 (by decide) rfl ?_
        exact kk
    ·
      refine j_aload_n (pc' := 391) dL_agrees_390 rfl rfl ?_
      refine j_iload (pc' := 393) dL_agrees_391 rfl rfl ?_
      refine j_bipush (pc' := 395) (v := nI 12) dL_agrees_393 rfl rfl ?_
      refine j_cVi (pc' := 398) m_L_31 (p_point hD hV (by omega) (by omega) (a := nI ll) ((fPt_w hV.z h16 hi (show 12 < 15 from by omega)).trans (e12))) Kd (by decide) rfl rfl rfl ⟨Nat.le_of_ble_eq_true rfl, Nat.le_of_ble_eq_true rfl⟩ ⟨Nat.le_of_ble_eq_true rfl, Nat.le_of_ble_eq_true rfl⟩ (Nat.le_of_ble_eq_true rfl) dL_agrees_395 rfl (fun x1 J1 hq => ?_)
      obtain ⟨hx, hI⟩ := hq
      rw [hx, hI]
      refine j_iload (pc' := 400) dL_agrees_398 rfl rfl ?_
      refine j_icmpF_gt (pc' := 403) (tgt := 454) (nI_nlt (by omega) (by omega)) dL_agrees_400 (by decide) rfl ?_
      refine j_aload_n (pc' := 404) dL_agrees_403 rfl rfl ?_
      refine j_iload (pc' := 406) dL_agrees_404 rfl rfl ?_
      refine j_bipush (pc' := 408) (v := nI 14) dL_agrees_406 rfl rfl ?_
      refine j_cVi (pc' := 411) m_L_31 (p_point hD hV (by omega) (by omega) (a := v (176 + 56 * i + 14)) ((fPt_w hV.z h16 hi (show 14 < 15 from by omega)))) Kd (by decide) rfl rfl rfl ⟨Nat.le_of_ble_eq_true rfl, Nat.le_of_ble_eq_true rfl⟩ ⟨Nat.le_of_ble_eq_true rfl, Nat.le_of_ble_eq_true rfl⟩ (Nat.le_of_ble_eq_true rfl) dL_agrees_408 rfl (fun x1 J1 hq => ?_)
      obtain ⟨hx, hI⟩ := hq
      rw [hx, hI]
      refine jx_cut (B := jx_J E l cL_agrees 13 (some .boolean) RL false rmA 1 5 (fun v' n' kd' R' I' => v' = some (.int (nI 1)) ∧ LZ kd' R' I' d k T B) 1 5 n kd R I2 438 [some (.ref d), some (.int (nI k)), some (.ref a), some (.int ((cntF v 0 i) + (nI 1))), some (.int ((cntF v 6 i) + (nI 0))), some (.int ((cntF v 7 i) + (nI 0))), some (.int ((sm v i) + (v (176 + 56 * i + 14)))), some (.int (nI T)), some (.int (nI i)), some (.int (nI 4)), some (.int (nI 1)), some (.int (nI 1)), some (.int (nI 1))] []) (fun kk => ?_) ?_
      ·
        refine j_if_ne (pc' := 414) (tgt := 418) dL_agrees_411 rfl (by decide) (fun c411 => ?_) (fun c411 => ?_)
        ·
          refine j_iconst (pc' := 419) (v := nI 0) dL_agrees_418 rfl rfl ?_
          refine j_aload_n (pc' := 420) dL_agrees_419 rfl rfl ?_
          refine j_iload (pc' := 422) dL_agrees_420 rfl rfl ?_
          refine j_bipush (pc' := 424) (v := nI 12) dL_agrees_422 rfl rfl ?_
          refine j_cVi (pc' := 427) m_L_31 (p_point hD hV (by omega) (by omega) (a := v (176 + 56 * i + 12)) ((fPt_w hV.z h16 hi (show 12 < 15 from by omega)))) Kd (by decide) rfl rfl rfl ⟨Nat.le_of_ble_eq_true rfl, Nat.le_of_ble_eq_true rfl⟩ ⟨Nat.le_of_ble_eq_true rfl, Nat.le_of_ble_eq_true rfl⟩ (Nat.le_of_ble_eq_true rfl) dL_agrees_424 rfl (fun x1 J1 hq => ?_)
          obtain ⟨hx, hI⟩ := hq
          rw [hx, hI]
          refine j_ifT_ne (tgt := 434) (fun z => c411 (h14.mpr z)) dL_agrees_427 (by decide) ?_
          refine j_iconst (pc' := 435) (v := nI 0) dL_agrees_434 rfl rfl ?_
          refine j_icmpF_ne (pc' := 438) (tgt := 454) (by decide) dL_agrees_435 (by decide) rfl ?_
          exact kk
        ·
          refine j_iconst (pc' := 415) (v := nI 1) dL_agrees_414 rfl rfl ?_
          refine j_goto (tgt := 419) dL_agrees_415 (by decide) ?_
          refine j_aload_n (pc' := 420) dL_agrees_419 rfl rfl ?_
          refine j_iload (pc' := 422) dL_agrees_420 rfl rfl ?_
          refine j_bipush (pc' := 424) (v := nI 12) dL_agrees_422 rfl rfl ?_
          refine j_cVi (pc' := 427) m_L_31 (p_point hD hV (by omega) (by omega) (a := v (176 + 56 * i + 12)) ((fPt_w hV.z h16 hi (show 12 < 15 from by omega)))) Kd (by decide) rfl rfl rfl ⟨Nat.le_of_ble_eq_true rfl, Nat.le_of_ble_eq_true rfl⟩ ⟨Nat.le_of_ble_eq_true rfl, Nat.le_of_ble_eq_true rfl⟩ (Nat.le_of_ble_eq_true rfl) dL_agrees_424 rfl (fun x1 J1 hq => ?_)
          obtain ⟨hx, hI⟩ := hq
          rw [hx, hI]
          refine j_ifF_ne (pc' := 430) (tgt := 434) (h14.mp c411) dL_agrees_427 (by decide) rfl ?_
          refine j_iconst (pc' := 431) (v := nI 1) dL_agrees_430 rfl rfl ?_
          refine j_goto (tgt := 435) dL_agrees_431 (by decide) ?_
          refine j_icmpF_ne (pc' := 438) (tgt := 454) (by decide) dL_agrees_435 (by decide) rfl ?_
          exact kk
      ·
        refine j_aload_n (pc' := 439) dL_agrees_438 rfl rfl ?_
        refine j_iload (pc' := 441) dL_agrees_439 rfl rfl ?_
        refine j_bipush (pc' := 443) (v := nI 14) dL_agrees_441 rfl rfl ?_
        refine j_cVi (pc' := 446) m_L_31 (p_point hD hV (by omega) (by omega) (a := v (176 + 56 * i + 14)) ((fPt_w hV.z h16 hi (show 14 < 15 from by omega)))) Kd (by decide) rfl rfl rfl ⟨Nat.le_of_ble_eq_true rfl, Nat.le_of_ble_eq_true rfl⟩ ⟨Nat.le_of_ble_eq_true rfl, Nat.le_of_ble_eq_true rfl⟩ (Nat.le_of_ble_eq_true rfl) dL_agrees_443 rfl (fun x1 J1 hq => ?_)
        obtain ⟨hx, hI⟩ := hq
        rw [hx, hI]
        refine jx_cut (B := jx_J E l cL_agrees 13 (some .boolean) RL false rmA 1 5 (fun v' n' kd' R' I' => v' = some (.int (nI 1)) ∧ LZ kd' R' I' d k T B) 1 5 n kd R I2 456 [some (.ref d), some (.int (nI k)), some (.ref a), some (.int ((cntF v 0 i) + (nI 1))), some (.int ((cntF v 6 i) + (nI 0))), some (.int ((cntF v 7 i) + (nI 0))), some (.int ((sm v i) + (v (176 + 56 * i + 14)))), some (.int (nI T)), some (.int (nI i)), some (.int (nI 4)), some (.int (nI 1)), some (.int (nI 1)), some (.int (nI 1))] []) (fun kk => ?_) ?_
        ·
          refine j_if_ne (pc' := 449) (tgt := 456) dL_agrees_446 rfl (by decide) (fun c446 => ?_) (fun c446 => ?_)
          ·
            exact kk
          ·
            exact absurd (hal c446) (by rw [h9, h10]; decide)
        ·
          refine j_iincN (pc' := 459) (lv' := [_, _, _, _, _, _, _, _, _, _, _, _, _]) dL_agrees_456 rfl rfl (by decide) rfl ?_
          refine j_goto (tgt := 25) dL_agrees_459 (by decide) ?_
          have e0 : cntF v 0 (i + 1) = cntF v 0 i + nI 1 := cnt_t (by rw [cC0]; exact hst)
          have e6 : cntF v 6 (i + 1) = cntF v 6 i + nI 0 := cnt_f (by rw [cC6]; exact decide_eq_false (fun z => z hsh))
          have e7 : cntF v 7 (i + 1) = cntF v 7 i + nI 0 := cnt_f (by rw [cC7]; exact decide_eq_false (by rw [h10]; decide))
          refine j_eqLA e0 e6 e7 ?_
          exact ih (i + 1) I2 _ _ _ _ (by omega) (by omega) hD hA2
set_option maxRecDepth 100000 in
set_option maxHeartbeats 4000000 in
theorem ag_10_00 {E : jx_E} {l : Launch} {n : Nat} {kd : jx_K} {R : jx_R} {d : Nat} {v p : Nat → Int32} {q B k T S N : Nat} {i a : Nat} {I : jx_I} {y9 y10 y11 y12 : Option Value} (hV : VI v k T S N) (hN : N ≤ B) (hB : B + 100000 < 2147483000) (hP : PI v k T) (hi : i < k) (hka : kd a = (7, 5)) (hda : d + 344 ≤ a) (ih : ∀ (j : Nat) (I : jx_I) (y9 y10 y11 y12 : Option Value), i < j → j ≤ k → DK kd R I d v p q B → (∀ w, w < 5 → I a w = cntF v (w + 1) j) → jx_J E l cL_agrees 13 (some .boolean) RL false rmA 1 5 (fun v' n' kd' R' I' => v' = some (.int (nI 1)) ∧ LZ kd' R' I' d k T B) 1 5 n kd R I 25 [some (.ref d), some (.int (nI k)), some (.ref a), some (.int (cntF v 0 j)), some (.int (cntF v 6 j)), some (.int (cntF v 7 j)), some (.int (sm v j)), some (.int (nI T)), some (.int (nI j)), y9, y10, y11, y12] []) (hD : DK kd R I d v p q B) (hA : ∀ w, w < 5 → I a w = cntF v (w + 1) i) (h9 : v (176 + 56 * i + 9) = nI 1) (h10 : v (176 + 56 * i + 10) = nI 0) (hst : sStand v i = true) (hwf : WF v i 0) (hsh : v (176 + 56 * i + 13) ≤ 0) : jx_J E l cL_agrees 13 (some .boolean) RL false rmA 1 5 (fun v' n' kd' R' I' => v' = some (.int (nI 1)) ∧ LZ kd' R' I' d k T B) 1 5 n kd R I 25 [some (.ref d), some (.int (nI k)), some (.ref a), some (.int (cntF v 0 i)), some (.int (cntF v 6 i)), some (.int (cntF v 7 i)), some (.int (sm v i)), some (.int (nI T)), some (.int (nI i)), y9, y10, y11, y12] [] := by
  have h16 := hV.k16
  have Kd := hD.k5
  have hT := hV.tl
  obtain ⟨hp1, hp2⟩ := hP.1 i hi
  obtain ⟨⟨c, hc, e11⟩, aa, ll, haa, hll, e14, e12, hal0, hz⟩ := hp1
  have h14 : v (176 + 56 * i + 14) = 0 ↔ v (176 + 56 * i + 12) = 0 := by
    rw [e14, e12]
    have x1 := nI_eq (show aa < 2 ^ 31 from by omega) (show 0 < 2 ^ 31 from by omega)
    have x2 := nI_eq (show ll < 2 ^ 31 from by omega) (show 0 < 2 ^ 31 from by omega)
    exact x1.trans (hal0.trans x2.symm)
  have hal : v (176 + 56 * i + 14) = 0 → v (176 + 56 * i + 9) = nI 0 ∧ v (176 + 56 * i + 10) = nI 1 := fun z => hz ((nI_eq (show aa < 2 ^ 31 from by omega) (show 0 < 2 ^ 31 from by omega)).mp (e14.symm.trans z))
  have hgtT : ¬ v (176 + 56 * i + 13) = 0 → ¬ v (176 + 56 * i + 13) ≤ nI T := by
    intro z
    rcases hp2.2 with e | ⟨u, hu, hu2, e⟩
    · exact absurd e z
    · rw [e]; exact nI_ge hu (by omega)
  have hw0 := hwf.1
  refine j_iload (pc' := 27) dL_agrees_25 rfl rfl ?_
  refine j_iload_n (pc' := 28) dL_agrees_27 rfl rfl ?_
  refine j_icmpF_ge (pc' := 31) (tgt := 462) (nI_ge hi (by omega)) dL_agrees_28 (by decide) rfl ?_
  refine j_aload_n (pc' := 32) dL_agrees_31 rfl rfl ?_
  refine j_iload (pc' := 34) dL_agrees_32 rfl rfl ?_
  refine j_bipush (pc' := 36) (v := nI 15) dL_agrees_34 rfl rfl ?_
  refine j_cVi (pc' := 39) m_L_31 (p_point hD hV (by omega) (by omega) (a := nI 0) ((fPt_15 hV.z h16 hi).trans hw0)) Kd (by decide) rfl rfl rfl ⟨Nat.le_of_ble_eq_true rfl, Nat.le_of_ble_eq_true rfl⟩ ⟨Nat.le_of_ble_eq_true rfl, Nat.le_of_ble_eq_true rfl⟩ (Nat.le_of_ble_eq_true rfl) dL_agrees_36 rfl (fun x1 J1 hq => ?_)
  obtain ⟨hx, hI⟩ := hq
  rw [hx, hI]
  refine j_istore (pc' := 41) (lv' := [_, _, _, _, _, _, _, _, _, _, _, _, _]) dL_agrees_39 rfl (by decide) rfl ?_
  refine j_aload_n (pc' := 42) dL_agrees_41 rfl rfl ?_
  refine j_iload (pc' := 44) dL_agrees_42 rfl rfl ?_
  refine j_bipush (pc' := 46) (v := nI 9) dL_agrees_44 rfl rfl ?_
  refine j_cVi (pc' := 49) m_L_31 (p_point hD hV (by omega) (by omega) (a := nI 1) ((fPt_w hV.z h16 hi (show 9 < 15 from by omega)).trans (h9))) Kd (by decide) rfl rfl rfl ⟨Nat.le_of_ble_eq_true rfl, Nat.le_of_ble_eq_true rfl⟩ ⟨Nat.le_of_ble_eq_true rfl, Nat.le_of_ble_eq_true rfl⟩ (Nat.le_of_ble_eq_true rfl) dL_agrees_46 rfl (fun x1 J1 hq => ?_)
  obtain ⟨hx, hI⟩ := hq
  rw [hx, hI]
  refine j_iconst (pc' := 50) (v := nI 1) dL_agrees_49 rfl rfl ?_
  refine j_icmpF_ne (pc' := 53) (tgt := 57) (by decide) dL_agrees_50 (by decide) rfl ?_
  refine j_iconst (pc' := 54) (v := nI 1) dL_agrees_53 rfl rfl ?_
  refine j_goto (tgt := 58) dL_agrees_54 (by decide) ?_
  refine j_istore (pc' := 60) (lv' := [_, _, _, _, _, _, _, _, _, _, _, _, _]) dL_agrees_58 rfl (by decide) rfl ?_
  refine j_aload_n (pc' := 61) dL_agrees_60 rfl rfl ?_
  refine j_iload (pc' := 63) dL_agrees_61 rfl rfl ?_
  refine j_bipush (pc' := 65) (v := nI 10) dL_agrees_63 rfl rfl ?_
  refine j_cVi (pc' := 68) m_L_31 (p_point hD hV (by omega) (by omega) (a := nI 0) ((fPt_w hV.z h16 hi (show 10 < 15 from by omega)).trans (h10))) Kd (by decide) rfl rfl rfl ⟨Nat.le_of_ble_eq_true rfl, Nat.le_of_ble_eq_true rfl⟩ ⟨Nat.le_of_ble_eq_true rfl, Nat.le_of_ble_eq_true rfl⟩ (Nat.le_of_ble_eq_true rfl) dL_agrees_65 rfl (fun x1 J1 hq => ?_)
  obtain ⟨hx, hI⟩ := hq
  rw [hx, hI]
  refine j_iconst (pc' := 69) (v := nI 1) dL_agrees_68 rfl rfl ?_
  refine j_icmpT_ne (tgt := 76) (by decide) dL_agrees_69 (by decide) ?_
  refine j_iconst (pc' := 77) (v := nI 0) dL_agrees_76 rfl rfl ?_
  refine j_istore (pc' := 79) (lv' := [_, _, _, _, _, _, _, _, _, _, _, _, _]) dL_agrees_77 rfl (by decide) rfl ?_
  refine j_iload (pc' := 81) dL_agrees_79 rfl rfl ?_
  refine j_ifT_ne (tgt := 89) (by decide) dL_agrees_81 (by decide) ?_
  refine j_iconst (pc' := 90) (v := nI 1) dL_agrees_89 rfl rfl ?_
  refine j_goto (tgt := 94) dL_agrees_90 (by decide) ?_
  refine j_istore (pc' := 96) (lv' := [_, _, _, _, _, _, _, _, _, _, _, _, _]) dL_agrees_94 rfl (by decide) rfl ?_
  refine j_iload_n (pc' := 97) dL_agrees_96 rfl rfl ?_
  refine j_iload (pc' := 99) dL_agrees_97 rfl rfl ?_
  refine j_ifF_eq (pc' := 102) (tgt := 106) (by decide) dL_agrees_99 (by decide) rfl ?_
  refine j_iconst (pc' := 103) (v := nI 1) dL_agrees_102 rfl rfl ?_
  refine j_goto (tgt := 107) dL_agrees_103 (by decide) ?_
  refine j_iadd (pc' := 108) dL_agrees_107 rfl ?_
  refine j_istore_n (pc' := 109) (lv' := [_, _, _, _, _, _, _, _, _, _, _, _, _]) dL_agrees_108 rfl (by decide) rfl ?_
  refine j_iload (pc' := 111) dL_agrees_109 rfl rfl ?_
  refine j_aload_n (pc' := 112) dL_agrees_111 rfl rfl ?_
  refine j_iload (pc' := 114) dL_agrees_112 rfl rfl ?_
  refine j_bipush (pc' := 116) (v := nI 13) dL_agrees_114 rfl rfl ?_
  refine j_cVi (pc' := 119) m_L_31 (p_point hD hV (by omega) (by omega) (a := v (176 + 56 * i + 13)) ((fPt_w hV.z h16 hi (show 13 < 15 from by omega)))) Kd (by decide) rfl rfl rfl ⟨Nat.le_of_ble_eq_true rfl, Nat.le_of_ble_eq_true rfl⟩ ⟨Nat.le_of_ble_eq_true rfl, Nat.le_of_ble_eq_true rfl⟩ (Nat.le_of_ble_eq_true rfl) dL_agrees_116 rfl (fun x1 J1 hq => ?_)
  obtain ⟨hx, hI⟩ := hq
  rw [hx, hI]
  refine j_ifT_le (tgt := 126) (hsh) dL_agrees_119 (by decide) ?_
  refine j_iconst (pc' := 127) (v := nI 0) dL_agrees_126 rfl rfl ?_
  refine j_iadd (pc' := 128) dL_agrees_127 rfl ?_
  refine j_istore (pc' := 130) (lv' := [_, _, _, _, _, _, _, _, _, _, _, _, _]) dL_agrees_128 rfl (by decide) rfl ?_
  refine j_iload (pc' := 132) dL_agrees_130 rfl rfl ?_
  refine j_iload (pc' := 134) dL_agrees_132 rfl rfl ?_
  refine j_ifT_eq (tgt := 141) (by decide) dL_agrees_134 (by decide) ?_
  refine j_iconst (pc' := 142) (v := nI 1) dL_agrees_141 rfl rfl ?_
  refine j_iadd (pc' := 143) dL_agrees_142 rfl ?_
  refine j_istore (pc' := 145) (lv' := [_, _, _, _, _, _, _, _, _, _, _, _, _]) dL_agrees_143 rfl (by decide) rfl ?_
  refine j_iload (pc' := 147) dL_agrees_145 rfl rfl ?_
  refine j_aload_n (pc' := 148) dL_agrees_147 rfl rfl ?_
  refine j_iload (pc' := 150) dL_agrees_148 rfl rfl ?_
  refine j_bipush (pc' := 152) (v := nI 14) dL_agrees_150 rfl rfl ?_
  refine j_cVi (pc' := 155) m_L_31 (p_point hD hV (by omega) (by omega) (a := v (176 + 56 * i + 14)) ((fPt_w hV.z h16 hi (show 14 < 15 from by omega)))) Kd (by decide) rfl rfl rfl ⟨Nat.le_of_ble_eq_true rfl, Nat.le_of_ble_eq_true rfl⟩ ⟨Nat.le_of_ble_eq_true rfl, Nat.le_of_ble_eq_true rfl⟩ (Nat.le_of_ble_eq_true rfl) dL_agrees_152 rfl (fun x1 J1 hq => ?_)
  obtain ⟨hx, hI⟩ := hq
  rw [hx, hI]
  refine j_iadd (pc' := 156) dL_agrees_155 rfl ?_
  refine j_istore (pc' := 158) (lv' := [_, _, _, _, _, _, _, _, _, _, _, _, _]) dL_agrees_156 rfl (by decide) rfl ?_
  refine j_iload (pc' := 160) dL_agrees_158 rfl rfl ?_
  refine j_ifF_eq (pc' := 163) (tgt := 177) (by decide) dL_agrees_160 (by decide) rfl ?_
  refine j_iload (pc' := 165) dL_agrees_163 rfl rfl ?_
  refine j_ifF_lt (pc' := 168) (tgt := 185) (by decide) dL_agrees_165 (by decide) rfl ?_
  refine j_iload (pc' := 170) dL_agrees_168 rfl rfl ?_
  refine j_iconst (pc' := 171) (v := nI 4) dL_agrees_170 rfl rfl ?_
  refine j_icmpT_le (tgt := 187) (by decide) dL_agrees_171 (by decide) ?_
  refine j_aload_n (pc' := 188) dL_agrees_187 rfl rfl ?_
  refine j_iload (pc' := 190) dL_agrees_188 rfl rfl ?_
  refine j_ifT_ge (tgt := 197) (by decide) dL_agrees_190 (by decide) ?_
  refine j_iload (pc' := 199) dL_agrees_197 rfl rfl ?_
  refine j_dup2 (pc' := 200) dL_agrees_199 rfl rfl rfl ?_
  refine j_ialdv (pc' := 201) hka rfl (by decide) (by decide) (hA _ (by decide)) dL_agrees_200 rfl ?_
  refine j_iload (pc' := 203) dL_agrees_201 rfl rfl ?_
  refine j_ifF_eq (pc' := 206) (tgt := 210) (by decide) dL_agrees_203 (by decide) rfl ?_
  refine j_iconst (pc' := 207) (v := nI 1) dL_agrees_206 rfl rfl ?_
  refine j_goto (tgt := 211) dL_agrees_207 (by decide) ?_
  refine j_iadd (pc' := 212) dL_agrees_211 rfl ?_
  refine j_iast (pc' := 213) hka rfl (by decide) (by decide) dL_agrees_212 rfl ?_
  have hD2 := hD.upA (j := 0) (x := cntF v 1 i + nI 1) hda
  have hA2 := why_up (a := a) (by decide) hw0 hA
  change jx_J E l cL_agrees 13 (some .boolean) RL false rmA 1 5 (fun v' n' kd' R' I' => v' = some (.int (nI 1)) ∧ LZ kd' R' I' d k T B) 1 5 n kd R (jx_up I a 0 (cntF v 1 i + nI 1)) 213 _ _
  generalize jx_up I a 0 (cntF v 1 i + nI 1) = I2 at hD2 hA2 ⊢
  have hD := hD2
  refine j_aload_n (pc' := 214) dL_agrees_213 rfl rfl ?_
  refine j_iload (pc' := 216) dL_agrees_214 rfl rfl ?_
  refine j_iconst (pc' := 217) (v := nI 5) dL_agrees_216 rfl rfl ?_
  refine j_cVi (pc' := 220) m_L_31 (p_point hD hV (by omega) (by omega) (a := v (176 + 56 * i + 5)) ((fPt_w hV.z h16 hi (show 5 < 15 from by omega)))) Kd (by decide) rfl rfl rfl ⟨Nat.le_of_ble_eq_true rfl, Nat.le_of_ble_eq_true rfl⟩ ⟨Nat.le_of_ble_eq_true rfl, Nat.le_of_ble_eq_true rfl⟩ (Nat.le_of_ble_eq_true rfl) dL_agrees_217 rfl (fun x1 J1 hq => ?_)
  obtain ⟨hx, hI⟩ := hq
  rw [hx, hI]
  refine j_iconst (pc' := 221) (v := nI 1) dL_agrees_220 rfl rfl ?_
  refine jx_cut (B := jx_J E l cL_agrees 13 (some .boolean) RL false rmA 1 5 (fun v' n' kd' R' I' => v' = some (.int (nI 1)) ∧ LZ kd' R' I' d k T B) 1 5 n kd R I2 240 [some (.ref d), some (.int (nI k)), some (.ref a), some (.int ((cntF v 0 i) + (nI 1))), some (.int ((cntF v 6 i) + (nI 0))), some (.int ((cntF v 7 i) + (nI 1))), some (.int ((sm v i) + (v (176 + 56 * i + 14)))), some (.int (nI T)), some (.int (nI i)), some (.int (nI 0)), some (.int (nI 1)), some (.int (nI 0)), some (.int (nI 1))] []) (fun kk => ?_) ?_
  ·
    refine j_icmp_ne (pc' := 224) (tgt := 240) dL_agrees_221 rfl (by decide) (fun c221 => ?_) (fun c221 => ?_)
    ·
      exact kk
    ·
      refine j_iload (pc' := 226) dL_agrees_224 rfl rfl ?_
      refine j_ifF_gt (pc' := 229) (tgt := 348) (by decide) dL_agrees_226 (by decide) rfl ?_
      refine j_aload_n (pc' := 230) dL_agrees_229 rfl rfl ?_
      refine j_iload (pc' := 232) dL_agrees_230 rfl rfl ?_
      refine j_bipush (pc' := 234) (v := nI 13) dL_agrees_232 rfl rfl ?_
      refine j_cVi (pc' := 237) m_L_31 (p_point hD hV (by omega) (by omega) (a := v (176 + 56 * i + 13)) ((fPt_w hV.z h16 hi (show 13 < 15 from by omega)))) Kd (by decide) rfl rfl rfl ⟨Nat.le_of_ble_eq_true rfl, Nat.le_of_ble_eq_true rfl⟩ ⟨Nat.le_of_ble_eq_true rfl, Nat.le_of_ble_eq_true rfl⟩ (Nat.le_of_ble_eq_true rfl) dL_agrees_234 rfl (fun x1 J1 hq => ?_)
      obtain ⟨hx, hI⟩ := hq
      rw [hx, hI]
      refine j_ifF_ne (pc' := 240) (tgt := 348) (hp2.1 c221) dL_agrees_237 (by decide) rfl ?_
      exact kk
  ·
    refine j_aload_n (pc' := 241) dL_agrees_240 rfl rfl ?_
    refine j_iload (pc' := 243) dL_agrees_241 rfl rfl ?_
    refine j_bipush (pc' := 245) (v := nI 13) dL_agrees_243 rfl rfl ?_
    refine j_cVi (pc' := 248) m_L_31 (p_point hD hV (by omega) (by omega) (a := v (176 + 56 * i + 13)) ((fPt_w hV.z h16 hi (show 13 < 15 from by omega)))) Kd (by decide) rfl rfl rfl ⟨Nat.le_of_ble_eq_true rfl, Nat.le_of_ble_eq_true rfl⟩ ⟨Nat.le_of_ble_eq_true rfl, Nat.le_of_ble_eq_true rfl⟩ (Nat.le_of_ble_eq_true rfl) dL_agrees_245 rfl (fun x1 J1 hq => ?_)
    obtain ⟨hx, hI⟩ := hq
    rw [hx, hI]
    refine jx_cut (B := jx_J E l cL_agrees 13 (some .boolean) RL false rmA 1 5 (fun v' n' kd' R' I' => v' = some (.int (nI 1)) ∧ LZ kd' R' I' d k T B) 1 5 n kd R I2 264 [some (.ref d), some (.int (nI k)), some (.ref a), some (.int ((cntF v 0 i) + (nI 1))), some (.int ((cntF v 6 i) + (nI 0))), some (.int ((cntF v 7 i) + (nI 1))), some (.int ((sm v i) + (v (176 + 56 * i + 14)))), some (.int (nI T)), some (.int (nI i)), some (.int (nI 0)), some (.int (nI 1)), some (.int (nI 0)), some (.int (nI 1))] []) (fun kk => ?_) ?_
    ·
      refine j_if_eq (pc' := 251) (tgt := 264) dL_agrees_248 rfl (by decide) (fun c248 => ?_) (fun c248 => ?_)
      ·
        exact kk
      ·
        refine j_aload_n (pc' := 252) dL_agrees_251 rfl rfl ?_
        refine j_iload (pc' := 254) dL_agrees_252 rfl rfl ?_
        refine j_bipush (pc' := 256) (v := nI 13) dL_agrees_254 rfl rfl ?_
        refine j_cVi (pc' := 259) m_L_31 (p_point hD hV (by omega) (by omega) (a := v (176 + 56 * i + 13)) ((fPt_w hV.z h16 hi (show 13 < 15 from by omega)))) Kd (by decide) rfl rfl rfl ⟨Nat.le_of_ble_eq_true rfl, Nat.le_of_ble_eq_true rfl⟩ ⟨Nat.le_of_ble_eq_true rfl, Nat.le_of_ble_eq_true rfl⟩ (Nat.le_of_ble_eq_true rfl) dL_agrees_256 rfl (fun x1 J1 hq => ?_)
        obtain ⟨hx, hI⟩ := hq
        rw [hx, hI]
        refine j_iload (pc' := 261) dL_agrees_259 rfl rfl ?_
        refine j_icmpF_le (pc' := 264) (tgt := 348) (hgtT c248) dL_agrees_261 (by decide) rfl ?_
        exact kk
    ·
      refine j_iload (pc' := 266) dL_agrees_264 rfl rfl ?_
      refine j_iconst (pc' := 267) (v := nI 1) dL_agrees_266 rfl rfl ?_
      refine j_icmpT_ne (tgt := 281) (by decide) dL_agrees_267 (by decide) ?_
      refine j_iload (pc' := 283) dL_agrees_281 rfl rfl ?_
      refine j_iconst (pc' := 284) (v := nI 2) dL_agrees_283 rfl rfl ?_
      refine j_icmpT_ne (tgt := 306) (by decide) dL_agrees_284 (by decide) ?_
      refine j_iload (pc' := 308) dL_agrees_306 rfl rfl ?_
      refine j_iconst (pc' := 309) (v := nI 3) dL_agrees_308 rfl rfl ?_
      refine j_icmpT_ne (tgt := 323) (by decide) dL_agrees_309 (by decide) ?_
      refine j_iload (pc' := 325) dL_agrees_323 rfl rfl ?_
      refine j_iconst (pc' := 326) (v := nI 4) dL_agrees_325 rfl rfl ?_
      refine j_icmpT_ne (tgt := 350) (by decide) dL_agrees_326 (by decide) ?_
      refine j_aload_n (pc' := 351) dL_agrees_350 rfl rfl ?_
      refine j_iload (pc' := 353) dL_agrees_351 rfl rfl ?_
      refine j_bipush (pc' := 355) (v := nI 11) dL_agrees_353 rfl rfl ?_
      refine j_cVi (pc' := 358) m_L_31 (p_point hD hV (by omega) (by omega) (a := v (176 + 56 * i + 11)) ((fPt_w hV.z h16 hi (show 11 < 15 from by omega)))) Kd (by decide) rfl rfl rfl ⟨Nat.le_of_ble_eq_true rfl, Nat.le_of_ble_eq_true rfl⟩ ⟨Nat.le_of_ble_eq_true rfl, Nat.le_of_ble_eq_true rfl⟩ (Nat.le_of_ble_eq_true rfl) dL_agrees_355 rfl (fun x1 J1 hq => ?_)
      obtain ⟨hx, hI⟩ := hq
      rw [hx, hI]
      refine j_aload_n (pc' := 359) dL_agrees_358 rfl rfl ?_
      refine j_iload (pc' := 361) dL_agrees_359 rfl rfl ?_
      refine j_iload (pc' := 363) dL_agrees_361 rfl rfl ?_
      refine j_ifF_eq (pc' := 366) (tgt := 370) (by decide) dL_agrees_363 (by decide) rfl ?_
      refine j_iconst (pc' := 367) (v := nI 4) dL_agrees_366 rfl rfl ?_
      refine j_goto (tgt := 371) dL_agrees_367 (by decide) ?_
      refine j_cVi (pc' := 374) m_L_31 (p_point hD hV (by omega) (by omega) (a := v (176 + 56 * i + 4)) ((fPt_w hV.z h16 hi (show 4 < 15 from by omega)))) Kd (by decide) rfl rfl rfl ⟨Nat.le_of_ble_eq_true rfl, Nat.le_of_ble_eq_true rfl⟩ ⟨Nat.le_of_ble_eq_true rfl, Nat.le_of_ble_eq_true rfl⟩ (Nat.le_of_ble_eq_true rfl) dL_agrees_371 rfl (fun x1 J1 hq => ?_)
      obtain ⟨hx, hI⟩ := hq
      rw [hx, hI]
      refine jx_cut (B := jx_J E l cL_agrees 13 (some .boolean) RL false rmA 1 5 (fun v' n' kd' R' I' => v' = some (.int (nI 1)) ∧ LZ kd' R' I' d k T B) 1 5 n kd R I2 390 [some (.ref d), some (.int (nI k)), some (.ref a), some (.int ((cntF v 0 i) + (nI 1))), some (.int ((cntF v 6 i) + (nI 0))), some (.int ((cntF v 7 i) + (nI 1))), some (.int ((sm v i) + (v (176 + 56 * i + 14)))), some (.int (nI T)), some (.int (nI i)), some (.int (nI 0)), some (.int (nI 1)), some (.int (nI 0)), some (.int (nI 1))] []) (fun kk => ?_) ?_
      ·
        refine j_icmp_le (pc' := 377) (tgt := 390) dL_agrees_374 rfl (by decide) (fun c374 => ?_) (fun c374 => ?_)
        ·
          exact kk
        ·
          refine j_aload_n (pc' := 378) dL_agrees_377 rfl rfl ?_
          refine j_iload (pc' := 380) dL_agrees_378 rfl rfl ?_
          refine j_bipush (pc' := 382) (v := nI 11) dL_agrees_380 rfl rfl ?_
          refine j_cVi (pc' := 385) m_L_31 (p_point hD hV (by omega) (by omega) (a := nI c) ((fPt_w hV.z h16 hi (show 11 < 15 from by omega)).trans (e11))) Kd (by decide) rfl rfl rfl ⟨Nat.le_of_ble_eq_true rfl, Nat.le_of_ble_eq_true rfl⟩ ⟨Nat.le_of_ble_eq_true rfl, Nat.le_of_ble_eq_true rfl⟩ (Nat.le_of_ble_eq_true rfl) dL_agrees_382 rfl (fun x1 J1 hq => ?_)
          obtain ⟨hx, hI⟩ := hq
          rw [hx, hI]
          refine j_bipush (pc' := 387) (v := nI 20) dL_agrees_385 rfl rfl ?_
          refine j_icmpF_gt (pc' := 390) (tgt := 454) (nI_nlt (by omega) (by omega)) dL_agrees_387 (by decide) rfl ?_
          exact kk
      ·
        refine j_aload_n (pc' := 391) dL_agrees_390 rfl rfl ?_
        refine j_iload (pc' := 393) dL_agrees_391 rfl rfl ?_
        refine j_bipush (pc' := 395) (v := nI 12) dL_agrees_393 rfl rfl ?_
        refine j_cVi (pc' := 398) m_L_31 (p_point hD hV (by omega) (by omega) (a := nI ll) ((fPt_w hV.z h16 hi (show 12 < 15 from by omega)).trans (e12))) Kd (by decide) rfl rfl rfl ⟨Nat.le_of_ble_eq_true rfl, Nat.le_of_ble_eq_true rfl⟩ ⟨Nat.le_of_ble_eq_true rfl, Nat.le_of_ble_eq_true rfl⟩ (Nat.le_of_ble_eq_true rfl) dL_agrees_395 rfl (fun x1 J1 hq => ?_)
        obtain ⟨hx, hI⟩ := hq
        rw [hx, hI]
        refine j_iload (pc' := 400) dL_agrees_398 rfl rfl ?_
        refine j_icmpF_gt (pc' := 403) (tgt := 454) (nI_nlt (by omega) (by omega)) dL_agrees_400 (by decide) rfl ?_
        refine j_aload_n (pc' := 404) dL_agrees_403 rfl rfl ?_
        refine j_iload (pc' := 406) dL_agrees_404 rfl rfl ?_
        refine j_bipush (pc' := 408) (v := nI 14) dL_agrees_406 rfl rfl ?_
        refine j_cVi (pc' := 411) m_L_31 (p_point hD hV (by omega) (by omega) (a := v (176 + 56 * i + 14)) ((fPt_w hV.z h16 hi (show 14 < 15 from by omega)))) Kd (by decide) rfl rfl rfl ⟨Nat.le_of_ble_eq_true rfl, Nat.le_of_ble_eq_true rfl⟩ ⟨Nat.le_of_ble_eq_true rfl, Nat.le_of_ble_eq_true rfl⟩ (Nat.le_of_ble_eq_true rfl) dL_agrees_408 rfl (fun x1 J1 hq => ?_)
        obtain ⟨hx, hI⟩ := hq
        rw [hx, hI]
        refine jx_cut (B := jx_J E l cL_agrees 13 (some .boolean) RL false rmA 1 5 (fun v' n' kd' R' I' => v' = some (.int (nI 1)) ∧ LZ kd' R' I' d k T B) 1 5 n kd R I2 438 [some (.ref d), some (.int (nI k)), some (.ref a), some (.int ((cntF v 0 i) + (nI 1))), some (.int ((cntF v 6 i) + (nI 0))), some (.int ((cntF v 7 i) + (nI 1))), some (.int ((sm v i) + (v (176 + 56 * i + 14)))), some (.int (nI T)), some (.int (nI i)), some (.int (nI 0)), some (.int (nI 1)), some (.int (nI 0)), some (.int (nI 1))] []) (fun kk => ?_) ?_
        ·
          refine j_if_ne (pc' := 414) (tgt := 418) dL_agrees_411 rfl (by decide) (fun c411 => ?_) (fun c411 => ?_)
          ·
            refine j_iconst (pc' := 419) (v := nI 0) dL_agrees_418 rfl rfl ?_
            refine j_aload_n (pc' := 420) dL_agrees_419 rfl rfl ?_
            refine j_iload (pc' := 422) dL_agrees_420 rfl rfl ?_
            refine j_bipush (pc' := 424) (v := nI 12) dL_agrees_422 rfl rfl ?_
            refine j_cVi (pc' := 427) m_L_31 (p_point hD hV (by omega) (by omega) (a := v (176 + 56 * i + 12)) ((fPt_w hV.z h16 hi (show 12 < 15 from by omega)))) Kd (by decide) rfl rfl rfl ⟨Nat.le_of_ble_eq_true rfl, Nat.le_of_ble_eq_true rfl⟩ ⟨Nat.le_of_ble_eq_true rfl, Nat.le_of_ble_eq_true rfl⟩ (Nat.le_of_ble_eq_true rfl) dL_agrees_424 rfl (fun x1 J1 hq => ?_)
            obtain ⟨hx, hI⟩ := hq
            rw [hx, hI]
            refine j_ifT_ne (tgt := 434) (fun z => c411 (h14.mpr z)) dL_agrees_427 (by decide) ?_
            refine j_iconst (pc' := 435) (v := nI 0) dL_agrees_434 rfl rfl ?_
            refine j_icmpF_ne (pc' := 438) (tgt := 454) (by decide) dL_agrees_435 (by decide) rfl ?_
            exact kk
          ·
            refine j_iconst (pc' := 415) (v := nI 1) dL_agrees_414 rfl rfl ?_
            refine j_goto (tgt := 419) dL_agrees_415 (by decide) ?_
            refine j_aload_n (pc' := 420) dL_agrees_419 rfl rfl ?_
            refine j_iload (pc' := 422) dL_agrees_420 rfl rfl ?_
            refine j_bipush (pc' := 424) (v := nI 12) dL_agrees_422 rfl rfl ?_
            refine j_cVi (pc' := 427) m_L_31 (p_point hD hV (by omega) (by omega) (a := v (176 + 56 * i + 12)) ((fPt_w hV.z h16 hi (show 12 < 15 from by omega)))) Kd (by decide) rfl rfl rfl ⟨Nat.le_of_ble_eq_true rfl, Nat.le_of_ble_eq_true rfl⟩ ⟨Nat.le_of_ble_eq_true rfl, Nat.le_of_ble_eq_true rfl⟩ (Nat.le_of_ble_eq_true rfl) dL_agrees_424 rfl (fun x1 J1 hq => ?_)
            obtain ⟨hx, hI⟩ := hq
            rw [hx, hI]
            refine j_ifF_ne (pc' := 430) (tgt := 434) (h14.mp c411) dL_agrees_427 (by decide) rfl ?_
            refine j_iconst (pc' := 431) (v := nI 1) dL_agrees_430 rfl rfl ?_
            refine j_goto (tgt := 435) dL_agrees_431 (by decide) ?_
            refine j_icmpF_ne (pc' := 438) (tgt := 454) (by decide) dL_agrees_435 (by decide) rfl ?_
            exact kk
        ·
          refine j_aload_n (pc' := 439) dL_agrees_438 rfl rfl ?_
          refine j_iload (pc' := 441) dL_agrees_439 rfl rfl ?_
          refine j_bipush (pc' := 443) (v := nI 14) dL_agrees_441 rfl rfl ?_
          refine j_cVi (pc' := 446) m_L_31 (p_point hD hV (by omega) (by omega) (a := v (176 + 56 * i + 14)) ((fPt_w hV.z h16 hi (show 14 < 15 from by omega)))) Kd (by decide) rfl rfl rfl ⟨Nat.le_of_ble_eq_true rfl, Nat.le_of_ble_eq_true rfl⟩ ⟨Nat.le_of_ble_eq_true rfl, Nat.le_of_ble_eq_true rfl⟩ (Nat.le_of_ble_eq_true rfl) dL_agrees_443 rfl (fun x1 J1 hq => ?_)
          obtain ⟨hx, hI⟩ := hq
          rw [hx, hI]
          refine jx_cut (B := jx_J E l cL_agrees 13 (some .boolean) RL false rmA 1 5 (fun v' n' kd' R' I' => v' = some (.int (nI 1)) ∧ LZ kd' R' I' d k T B) 1 5 n kd R I2 456 [some (.ref d), some (.int (nI k)), some (.ref a), some (.int ((cntF v 0 i) + (nI 1))), some (.int ((cntF v 6 i) + (nI 0))), some (.int ((cntF v 7 i) + (nI 1))), some (.int ((sm v i) + (v (176 + 56 * i + 14)))), some (.int (nI T)), some (.int (nI i)), some (.int (nI 0)), some (.int (nI 1)), some (.int (nI 0)), some (.int (nI 1))] []) (fun kk => ?_) ?_
          ·
            refine j_if_ne (pc' := 449) (tgt := 456) dL_agrees_446 rfl (by decide) (fun c446 => ?_) (fun c446 => ?_)
            ·
              exact kk
            ·
              exact absurd (hal c446) (by rw [h9, h10]; decide)
          ·
            refine j_iincN (pc' := 459) (lv' := [_, _, _, _, _, _, _, _, _, _, _, _, _]) dL_agrees_456 rfl rfl (by decide) rfl ?_
            refine j_goto (tgt := 25) dL_agrees_459 (by decide) ?_
            have e0 : cntF v 0 (i + 1) = cntF v 0 i + nI 1 := cnt_t (by rw [cC0]; exact hst)
            have e6 : cntF v 6 (i + 1) = cntF v 6 i + nI 0 := cnt_f (by rw [cC6]; exact decide_eq_false (fun z => z hsh))
            have e7 : cntF v 7 (i + 1) = cntF v 7 i + nI 1 := cnt_t (by rw [cC7]; exact decide_eq_true h10)
            refine j_eqLA e0 e6 e7 ?_
            exact ih (i + 1) I2 _ _ _ _ (by omega) (by omega) hD hA2
set_option maxRecDepth 100000 in
set_option maxHeartbeats 4000000 in
theorem ag_10_11 {E : jx_E} {l : Launch} {n : Nat} {kd : jx_K} {R : jx_R} {d : Nat} {v p : Nat → Int32} {q B k T S N : Nat} {i a : Nat} {I : jx_I} {y9 y10 y11 y12 : Option Value} (hV : VI v k T S N) (hN : N ≤ B) (hB : B + 100000 < 2147483000) (hP : PI v k T) (hi : i < k) (hka : kd a = (7, 5)) (hda : d + 344 ≤ a) (ih : ∀ (j : Nat) (I : jx_I) (y9 y10 y11 y12 : Option Value), i < j → j ≤ k → DK kd R I d v p q B → (∀ w, w < 5 → I a w = cntF v (w + 1) j) → jx_J E l cL_agrees 13 (some .boolean) RL false rmA 1 5 (fun v' n' kd' R' I' => v' = some (.int (nI 1)) ∧ LZ kd' R' I' d k T B) 1 5 n kd R I 25 [some (.ref d), some (.int (nI k)), some (.ref a), some (.int (cntF v 0 j)), some (.int (cntF v 6 j)), some (.int (cntF v 7 j)), some (.int (sm v j)), some (.int (nI T)), some (.int (nI j)), y9, y10, y11, y12] []) (hD : DK kd R I d v p q B) (hA : ∀ w, w < 5 → I a w = cntF v (w + 1) i) (h9 : v (176 + 56 * i + 9) = nI 1) (h10 : v (176 + 56 * i + 10) = nI 0) (hst : sStand v i = true) (hwf : WF v i 1) (hsh : ¬ v (176 + 56 * i + 13) ≤ 0) : jx_J E l cL_agrees 13 (some .boolean) RL false rmA 1 5 (fun v' n' kd' R' I' => v' = some (.int (nI 1)) ∧ LZ kd' R' I' d k T B) 1 5 n kd R I 25 [some (.ref d), some (.int (nI k)), some (.ref a), some (.int (cntF v 0 i)), some (.int (cntF v 6 i)), some (.int (cntF v 7 i)), some (.int (sm v i)), some (.int (nI T)), some (.int (nI i)), y9, y10, y11, y12] [] := by
  have h16 := hV.k16
  have Kd := hD.k5
  have hT := hV.tl
  obtain ⟨hp1, hp2⟩ := hP.1 i hi
  obtain ⟨⟨c, hc, e11⟩, aa, ll, haa, hll, e14, e12, hal0, hz⟩ := hp1
  have h14 : v (176 + 56 * i + 14) = 0 ↔ v (176 + 56 * i + 12) = 0 := by
    rw [e14, e12]
    have x1 := nI_eq (show aa < 2 ^ 31 from by omega) (show 0 < 2 ^ 31 from by omega)
    have x2 := nI_eq (show ll < 2 ^ 31 from by omega) (show 0 < 2 ^ 31 from by omega)
    exact x1.trans (hal0.trans x2.symm)
  have hal : v (176 + 56 * i + 14) = 0 → v (176 + 56 * i + 9) = nI 0 ∧ v (176 + 56 * i + 10) = nI 1 := fun z => hz ((nI_eq (show aa < 2 ^ 31 from by omega) (show 0 < 2 ^ 31 from by omega)).mp (e14.symm.trans z))
  have hgtT : ¬ v (176 + 56 * i + 13) = 0 → ¬ v (176 + 56 * i + 13) ≤ nI T := by
    intro z
    rcases hp2.2 with e | ⟨u, hu, hu2, e⟩
    · exact absurd e z
    · rw [e]; exact nI_ge hu (by omega)
  have hw0 := hwf.1
  refine j_iload (pc' := 27) dL_agrees_25 rfl rfl ?_
  refine j_iload_n (pc' := 28) dL_agrees_27 rfl rfl ?_
  refine j_icmpF_ge (pc' := 31) (tgt := 462) (nI_ge hi (by omega)) dL_agrees_28 (by decide) rfl ?_
  refine j_aload_n (pc' := 32) dL_agrees_31 rfl rfl ?_
  refine j_iload (pc' := 34) dL_agrees_32 rfl rfl ?_
  refine j_bipush (pc' := 36) (v := nI 15) dL_agrees_34 rfl rfl ?_
  refine j_cVi (pc' := 39) m_L_31 (p_point hD hV (by omega) (by omega) (a := nI 1) ((fPt_15 hV.z h16 hi).trans hw0)) Kd (by decide) rfl rfl rfl ⟨Nat.le_of_ble_eq_true rfl, Nat.le_of_ble_eq_true rfl⟩ ⟨Nat.le_of_ble_eq_true rfl, Nat.le_of_ble_eq_true rfl⟩ (Nat.le_of_ble_eq_true rfl) dL_agrees_36 rfl (fun x1 J1 hq => ?_)
  obtain ⟨hx, hI⟩ := hq
  rw [hx, hI]
  refine j_istore (pc' := 41) (lv' := [_, _, _, _, _, _, _, _, _, _, _, _, _]) dL_agrees_39 rfl (by decide) rfl ?_
  refine j_aload_n (pc' := 42) dL_agrees_41 rfl rfl ?_
  refine j_iload (pc' := 44) dL_agrees_42 rfl rfl ?_
  refine j_bipush (pc' := 46) (v := nI 9) dL_agrees_44 rfl rfl ?_
  refine j_cVi (pc' := 49) m_L_31 (p_point hD hV (by omega) (by omega) (a := nI 1) ((fPt_w hV.z h16 hi (show 9 < 15 from by omega)).trans (h9))) Kd (by decide) rfl rfl rfl ⟨Nat.le_of_ble_eq_true rfl, Nat.le_of_ble_eq_true rfl⟩ ⟨Nat.le_of_ble_eq_true rfl, Nat.le_of_ble_eq_true rfl⟩ (Nat.le_of_ble_eq_true rfl) dL_agrees_46 rfl (fun x1 J1 hq => ?_)
  obtain ⟨hx, hI⟩ := hq
  rw [hx, hI]
  refine j_iconst (pc' := 50) (v := nI 1) dL_agrees_49 rfl rfl ?_
  refine j_icmpF_ne (pc' := 53) (tgt := 57) (by decide) dL_agrees_50 (by decide) rfl ?_
  refine j_iconst (pc' := 54) (v := nI 1) dL_agrees_53 rfl rfl ?_
  refine j_goto (tgt := 58) dL_agrees_54 (by decide) ?_
  refine j_istore (pc' := 60) (lv' := [_, _, _, _, _, _, _, _, _, _, _, _, _]) dL_agrees_58 rfl (by decide) rfl ?_
  refine j_aload_n (pc' := 61) dL_agrees_60 rfl rfl ?_
  refine j_iload (pc' := 63) dL_agrees_61 rfl rfl ?_
  refine j_bipush (pc' := 65) (v := nI 10) dL_agrees_63 rfl rfl ?_
  refine j_cVi (pc' := 68) m_L_31 (p_point hD hV (by omega) (by omega) (a := nI 0) ((fPt_w hV.z h16 hi (show 10 < 15 from by omega)).trans (h10))) Kd (by decide) rfl rfl rfl ⟨Nat.le_of_ble_eq_true rfl, Nat.le_of_ble_eq_true rfl⟩ ⟨Nat.le_of_ble_eq_true rfl, Nat.le_of_ble_eq_true rfl⟩ (Nat.le_of_ble_eq_true rfl) dL_agrees_65 rfl (fun x1 J1 hq => ?_)
  obtain ⟨hx, hI⟩ := hq
  rw [hx, hI]
  refine j_iconst (pc' := 69) (v := nI 1) dL_agrees_68 rfl rfl ?_
  refine j_icmpT_ne (tgt := 76) (by decide) dL_agrees_69 (by decide) ?_
  refine j_iconst (pc' := 77) (v := nI 0) dL_agrees_76 rfl rfl ?_
  refine j_istore (pc' := 79) (lv' := [_, _, _, _, _, _, _, _, _, _, _, _, _]) dL_agrees_77 rfl (by decide) rfl ?_
  refine j_iload (pc' := 81) dL_agrees_79 rfl rfl ?_
  refine j_ifT_ne (tgt := 89) (by decide) dL_agrees_81 (by decide) ?_
  refine j_iconst (pc' := 90) (v := nI 1) dL_agrees_89 rfl rfl ?_
  refine j_goto (tgt := 94) dL_agrees_90 (by decide) ?_
  refine j_istore (pc' := 96) (lv' := [_, _, _, _, _, _, _, _, _, _, _, _, _]) dL_agrees_94 rfl (by decide) rfl ?_
  refine j_iload_n (pc' := 97) dL_agrees_96 rfl rfl ?_
  refine j_iload (pc' := 99) dL_agrees_97 rfl rfl ?_
  refine j_ifF_eq (pc' := 102) (tgt := 106) (by decide) dL_agrees_99 (by decide) rfl ?_
  refine j_iconst (pc' := 103) (v := nI 1) dL_agrees_102 rfl rfl ?_
  refine j_goto (tgt := 107) dL_agrees_103 (by decide) ?_
  refine j_iadd (pc' := 108) dL_agrees_107 rfl ?_
  refine j_istore_n (pc' := 109) (lv' := [_, _, _, _, _, _, _, _, _, _, _, _, _]) dL_agrees_108 rfl (by decide) rfl ?_
  refine j_iload (pc' := 111) dL_agrees_109 rfl rfl ?_
  refine j_aload_n (pc' := 112) dL_agrees_111 rfl rfl ?_
  refine j_iload (pc' := 114) dL_agrees_112 rfl rfl ?_
  refine j_bipush (pc' := 116) (v := nI 13) dL_agrees_114 rfl rfl ?_
  refine j_cVi (pc' := 119) m_L_31 (p_point hD hV (by omega) (by omega) (a := v (176 + 56 * i + 13)) ((fPt_w hV.z h16 hi (show 13 < 15 from by omega)))) Kd (by decide) rfl rfl rfl ⟨Nat.le_of_ble_eq_true rfl, Nat.le_of_ble_eq_true rfl⟩ ⟨Nat.le_of_ble_eq_true rfl, Nat.le_of_ble_eq_true rfl⟩ (Nat.le_of_ble_eq_true rfl) dL_agrees_116 rfl (fun x1 J1 hq => ?_)
  obtain ⟨hx, hI⟩ := hq
  rw [hx, hI]
  refine j_ifF_le (pc' := 122) (tgt := 126) (hsh) dL_agrees_119 (by decide) rfl ?_
  refine j_iconst (pc' := 123) (v := nI 1) dL_agrees_122 rfl rfl ?_
  refine j_goto (tgt := 127) dL_agrees_123 (by decide) ?_
  refine j_iadd (pc' := 128) dL_agrees_127 rfl ?_
  refine j_istore (pc' := 130) (lv' := [_, _, _, _, _, _, _, _, _, _, _, _, _]) dL_agrees_128 rfl (by decide) rfl ?_
  refine j_iload (pc' := 132) dL_agrees_130 rfl rfl ?_
  refine j_iload (pc' := 134) dL_agrees_132 rfl rfl ?_
  refine j_ifT_eq (tgt := 141) (by decide) dL_agrees_134 (by decide) ?_
  refine j_iconst (pc' := 142) (v := nI 1) dL_agrees_141 rfl rfl ?_
  refine j_iadd (pc' := 143) dL_agrees_142 rfl ?_
  refine j_istore (pc' := 145) (lv' := [_, _, _, _, _, _, _, _, _, _, _, _, _]) dL_agrees_143 rfl (by decide) rfl ?_
  refine j_iload (pc' := 147) dL_agrees_145 rfl rfl ?_
  refine j_aload_n (pc' := 148) dL_agrees_147 rfl rfl ?_
  refine j_iload (pc' := 150) dL_agrees_148 rfl rfl ?_
  refine j_bipush (pc' := 152) (v := nI 14) dL_agrees_150 rfl rfl ?_
  refine j_cVi (pc' := 155) m_L_31 (p_point hD hV (by omega) (by omega) (a := v (176 + 56 * i + 14)) ((fPt_w hV.z h16 hi (show 14 < 15 from by omega)))) Kd (by decide) rfl rfl rfl ⟨Nat.le_of_ble_eq_true rfl, Nat.le_of_ble_eq_true rfl⟩ ⟨Nat.le_of_ble_eq_true rfl, Nat.le_of_ble_eq_true rfl⟩ (Nat.le_of_ble_eq_true rfl) dL_agrees_152 rfl (fun x1 J1 hq => ?_)
  obtain ⟨hx, hI⟩ := hq
  rw [hx, hI]
  refine j_iadd (pc' := 156) dL_agrees_155 rfl ?_
  refine j_istore (pc' := 158) (lv' := [_, _, _, _, _, _, _, _, _, _, _, _, _]) dL_agrees_156 rfl (by decide) rfl ?_
  refine j_iload (pc' := 160) dL_agrees_158 rfl rfl ?_
  refine j_ifF_eq (pc' := 163) (tgt := 177) (by decide) dL_agrees_160 (by decide) rfl ?_
  refine j_iload (pc' := 165) dL_agrees_163 rfl rfl ?_
  refine j_ifF_lt (pc' := 168) (tgt := 185) (by decide) dL_agrees_165 (by decide) rfl ?_
  refine j_iload (pc' := 170) dL_agrees_168 rfl rfl ?_
  refine j_iconst (pc' := 171) (v := nI 4) dL_agrees_170 rfl rfl ?_
  refine j_icmpT_le (tgt := 187) (by decide) dL_agrees_171 (by decide) ?_
  refine j_aload_n (pc' := 188) dL_agrees_187 rfl rfl ?_
  refine j_iload (pc' := 190) dL_agrees_188 rfl rfl ?_
  refine j_ifT_ge (tgt := 197) (by decide) dL_agrees_190 (by decide) ?_
  refine j_iload (pc' := 199) dL_agrees_197 rfl rfl ?_
  refine j_dup2 (pc' := 200) dL_agrees_199 rfl rfl rfl ?_
  refine j_ialdv (pc' := 201) hka rfl (by decide) (by decide) (hA _ (by decide)) dL_agrees_200 rfl ?_
  refine j_iload (pc' := 203) dL_agrees_201 rfl rfl ?_
  refine j_ifF_eq (pc' := 206) (tgt := 210) (by decide) dL_agrees_203 (by decide) rfl ?_
  refine j_iconst (pc' := 207) (v := nI 1) dL_agrees_206 rfl rfl ?_
  refine j_goto (tgt := 211) dL_agrees_207 (by decide) ?_
  refine j_iadd (pc' := 212) dL_agrees_211 rfl ?_
  refine j_iast (pc' := 213) hka rfl (by decide) (by decide) dL_agrees_212 rfl ?_
  have hD2 := hD.upA (j := 1) (x := cntF v 2 i + nI 1) hda
  have hA2 := why_up (a := a) (by decide) hw0 hA
  change jx_J E l cL_agrees 13 (some .boolean) RL false rmA 1 5 (fun v' n' kd' R' I' => v' = some (.int (nI 1)) ∧ LZ kd' R' I' d k T B) 1 5 n kd R (jx_up I a 1 (cntF v 2 i + nI 1)) 213 _ _
  generalize jx_up I a 1 (cntF v 2 i + nI 1) = I2 at hD2 hA2 ⊢
  have hD := hD2
  refine j_aload_n (pc' := 214) dL_agrees_213 rfl rfl ?_
  refine j_iload (pc' := 216) dL_agrees_214 rfl rfl ?_
  refine j_iconst (pc' := 217) (v := nI 5) dL_agrees_216 rfl rfl ?_
  refine j_cVi (pc' := 220) m_L_31 (p_point hD hV (by omega) (by omega) (a := v (176 + 56 * i + 5)) ((fPt_w hV.z h16 hi (show 5 < 15 from by omega)))) Kd (by decide) rfl rfl rfl ⟨Nat.le_of_ble_eq_true rfl, Nat.le_of_ble_eq_true rfl⟩ ⟨Nat.le_of_ble_eq_true rfl, Nat.le_of_ble_eq_true rfl⟩ (Nat.le_of_ble_eq_true rfl) dL_agrees_217 rfl (fun x1 J1 hq => ?_)
  obtain ⟨hx, hI⟩ := hq
  rw [hx, hI]
  refine j_iconst (pc' := 221) (v := nI 1) dL_agrees_220 rfl rfl ?_
  refine j_icmpT_ne (tgt := 240) (fun z => hsh (by rw [hp2.1 z]; decide)) dL_agrees_221 (by decide) ?_
  refine j_aload_n (pc' := 241) dL_agrees_240 rfl rfl ?_
  refine j_iload (pc' := 243) dL_agrees_241 rfl rfl ?_
  refine j_bipush (pc' := 245) (v := nI 13) dL_agrees_243 rfl rfl ?_
  refine j_cVi (pc' := 248) m_L_31 (p_point hD hV (by omega) (by omega) (a := v (176 + 56 * i + 13)) ((fPt_w hV.z h16 hi (show 13 < 15 from by omega)))) Kd (by decide) rfl rfl rfl ⟨Nat.le_of_ble_eq_true rfl, Nat.le_of_ble_eq_true rfl⟩ ⟨Nat.le_of_ble_eq_true rfl, Nat.le_of_ble_eq_true rfl⟩ (Nat.le_of_ble_eq_true rfl) dL_agrees_245 rfl (fun x1 J1 hq => ?_)
  obtain ⟨hx, hI⟩ := hq
  rw [hx, hI]
  refine jx_cut (B := jx_J E l cL_agrees 13 (some .boolean) RL false rmA 1 5 (fun v' n' kd' R' I' => v' = some (.int (nI 1)) ∧ LZ kd' R' I' d k T B) 1 5 n kd R I2 264 [some (.ref d), some (.int (nI k)), some (.ref a), some (.int ((cntF v 0 i) + (nI 1))), some (.int ((cntF v 6 i) + (nI 1))), some (.int ((cntF v 7 i) + (nI 1))), some (.int ((sm v i) + (v (176 + 56 * i + 14)))), some (.int (nI T)), some (.int (nI i)), some (.int (nI 1)), some (.int (nI 1)), some (.int (nI 0)), some (.int (nI 1))] []) (fun kk => ?_) ?_
  ·
    refine j_if_eq (pc' := 251) (tgt := 264) dL_agrees_248 rfl (by decide) (fun c248 => ?_) (fun c248 => ?_)
    ·
      exact kk
    ·
      refine j_aload_n (pc' := 252) dL_agrees_251 rfl rfl ?_
      refine j_iload (pc' := 254) dL_agrees_252 rfl rfl ?_
      refine j_bipush (pc' := 256) (v := nI 13) dL_agrees_254 rfl rfl ?_
      refine j_cVi (pc' := 259) m_L_31 (p_point hD hV (by omega) (by omega) (a := v (176 + 56 * i + 13)) ((fPt_w hV.z h16 hi (show 13 < 15 from by omega)))) Kd (by decide) rfl rfl rfl ⟨Nat.le_of_ble_eq_true rfl, Nat.le_of_ble_eq_true rfl⟩ ⟨Nat.le_of_ble_eq_true rfl, Nat.le_of_ble_eq_true rfl⟩ (Nat.le_of_ble_eq_true rfl) dL_agrees_256 rfl (fun x1 J1 hq => ?_)
      obtain ⟨hx, hI⟩ := hq
      rw [hx, hI]
      refine j_iload (pc' := 261) dL_agrees_259 rfl rfl ?_
      refine j_icmpF_le (pc' := 264) (tgt := 348) (hgtT c248) dL_agrees_261 (by decide) rfl ?_
      exact kk
  ·
    refine j_iload (pc' := 266) dL_agrees_264 rfl rfl ?_
    refine j_iconst (pc' := 267) (v := nI 1) dL_agrees_266 rfl rfl ?_
    refine j_icmpF_ne (pc' := 270) (tgt := 281) (by decide) dL_agrees_267 (by decide) rfl ?_
    refine j_aload_n (pc' := 271) dL_agrees_270 rfl rfl ?_
    refine j_iload (pc' := 273) dL_agrees_271 rfl rfl ?_
    refine j_bipush (pc' := 275) (v := nI 13) dL_agrees_273 rfl rfl ?_
    refine j_cVi (pc' := 278) m_L_31 (p_point hD hV (by omega) (by omega) (a := v (176 + 56 * i + 13)) ((fPt_w hV.z h16 hi (show 13 < 15 from by omega)))) Kd (by decide) rfl rfl rfl ⟨Nat.le_of_ble_eq_true rfl, Nat.le_of_ble_eq_true rfl⟩ ⟨Nat.le_of_ble_eq_true rfl, Nat.le_of_ble_eq_true rfl⟩ (Nat.le_of_ble_eq_true rfl) dL_agrees_275 rfl (fun x1 J1 hq => ?_)
    obtain ⟨hx, hI⟩ := hq
    rw [hx, hI]
    refine j_ifF_eq (pc' := 281) (tgt := 348) (fun z => hsh (by rw [z]; decide)) dL_agrees_278 (by decide) rfl ?_
    refine j_iload (pc' := 283) dL_agrees_281 rfl rfl ?_
    refine j_iconst (pc' := 284) (v := nI 2) dL_agrees_283 rfl rfl ?_
    refine j_icmpT_ne (tgt := 306) (by decide) dL_agrees_284 (by decide) ?_
    refine j_iload (pc' := 308) dL_agrees_306 rfl rfl ?_
    refine j_iconst (pc' := 309) (v := nI 3) dL_agrees_308 rfl rfl ?_
    refine j_icmpT_ne (tgt := 323) (by decide) dL_agrees_309 (by decide) ?_
    refine j_iload (pc' := 325) dL_agrees_323 rfl rfl ?_
    refine j_iconst (pc' := 326) (v := nI 4) dL_agrees_325 rfl rfl ?_
    refine j_icmpT_ne (tgt := 350) (by decide) dL_agrees_326 (by decide) ?_
    refine j_aload_n (pc' := 351) dL_agrees_350 rfl rfl ?_
    refine j_iload (pc' := 353) dL_agrees_351 rfl rfl ?_
    refine j_bipush (pc' := 355) (v := nI 11) dL_agrees_353 rfl rfl ?_
    refine j_cVi (pc' := 358) m_L_31 (p_point hD hV (by omega) (by omega) (a := v (176 + 56 * i + 11)) ((fPt_w hV.z h16 hi (show 11 < 15 from by omega)))) Kd (by decide) rfl rfl rfl ⟨Nat.le_of_ble_eq_true rfl, Nat.le_of_ble_eq_true rfl⟩ ⟨Nat.le_of_ble_eq_true rfl, Nat.le_of_ble_eq_true rfl⟩ (Nat.le_of_ble_eq_true rfl) dL_agrees_355 rfl (fun x1 J1 hq => ?_)
    obtain ⟨hx, hI⟩ := hq
    rw [hx, hI]
    refine j_aload_n (pc' := 359) dL_agrees_358 rfl rfl ?_
    refine j_iload (pc' := 361) dL_agrees_359 rfl rfl ?_
    refine j_iload (pc' := 363) dL_agrees_361 rfl rfl ?_
    refine j_ifF_eq (pc' := 366) (tgt := 370) (by decide) dL_agrees_363 (by decide) rfl ?_
    refine j_iconst (pc' := 367) (v := nI 4) dL_agrees_366 rfl rfl ?_
    refine j_goto (tgt := 371) dL_agrees_367 (by decide) ?_
    refine j_cVi (pc' := 374) m_L_31 (p_point hD hV (by omega) (by omega) (a := v (176 + 56 * i + 4)) ((fPt_w hV.z h16 hi (show 4 < 15 from by omega)))) Kd (by decide) rfl rfl rfl ⟨Nat.le_of_ble_eq_true rfl, Nat.le_of_ble_eq_true rfl⟩ ⟨Nat.le_of_ble_eq_true rfl, Nat.le_of_ble_eq_true rfl⟩ (Nat.le_of_ble_eq_true rfl) dL_agrees_371 rfl (fun x1 J1 hq => ?_)
    obtain ⟨hx, hI⟩ := hq
    rw [hx, hI]
    refine jx_cut (B := jx_J E l cL_agrees 13 (some .boolean) RL false rmA 1 5 (fun v' n' kd' R' I' => v' = some (.int (nI 1)) ∧ LZ kd' R' I' d k T B) 1 5 n kd R I2 390 [some (.ref d), some (.int (nI k)), some (.ref a), some (.int ((cntF v 0 i) + (nI 1))), some (.int ((cntF v 6 i) + (nI 1))), some (.int ((cntF v 7 i) + (nI 1))), some (.int ((sm v i) + (v (176 + 56 * i + 14)))), some (.int (nI T)), some (.int (nI i)), some (.int (nI 1)), some (.int (nI 1)), some (.int (nI 0)), some (.int (nI 1))] []) (fun kk => ?_) ?_
    ·
      refine j_icmp_le (pc' := 377) (tgt := 390) dL_agrees_374 rfl (by decide) (fun c374 => ?_) (fun c374 => ?_)
      ·
        exact kk
      ·
        refine j_aload_n (pc' := 378) dL_agrees_377 rfl rfl ?_
        refine j_iload (pc' := 380) dL_agrees_378 rfl rfl ?_
        refine j_bipush (pc' := 382) (v := nI 11) dL_agrees_380 rfl rfl ?_
        refine j_cVi (pc' := 385) m_L_31 (p_point hD hV (by omega) (by omega) (a := nI c) ((fPt_w hV.z h16 hi (show 11 < 15 from by omega)).trans (e11))) Kd (by decide) rfl rfl rfl ⟨Nat.le_of_ble_eq_true rfl, Nat.le_of_ble_eq_true rfl⟩ ⟨Nat.le_of_ble_eq_true rfl, Nat.le_of_ble_eq_true rfl⟩ (Nat.le_of_ble_eq_true rfl) dL_agrees_382 rfl (fun x1 J1 hq => ?_)
        obtain ⟨hx, hI⟩ := hq
        rw [hx, hI]
        refine j_bipush (pc' := 387) (v := nI 20) dL_agrees_385 rfl rfl ?_
        refine j_icmpF_gt (pc' := 390) (tgt := 454) (nI_nlt (by omega) (by omega)) dL_agrees_387 (by decide) rfl ?_
        exact kk
    ·
      refine j_aload_n (pc' := 391) dL_agrees_390 rfl rfl ?_
      refine j_iload (pc' := 393) dL_agrees_391 rfl rfl ?_
      refine j_bipush (pc' := 395) (v := nI 12) dL_agrees_393 rfl rfl ?_
      refine j_cVi (pc' := 398) m_L_31 (p_point hD hV (by omega) (by omega) (a := nI ll) ((fPt_w hV.z h16 hi (show 12 < 15 from by omega)).trans (e12))) Kd (by decide) rfl rfl rfl ⟨Nat.le_of_ble_eq_true rfl, Nat.le_of_ble_eq_true rfl⟩ ⟨Nat.le_of_ble_eq_true rfl, Nat.le_of_ble_eq_true rfl⟩ (Nat.le_of_ble_eq_true rfl) dL_agrees_395 rfl (fun x1 J1 hq => ?_)
      obtain ⟨hx, hI⟩ := hq
      rw [hx, hI]
      refine j_iload (pc' := 400) dL_agrees_398 rfl rfl ?_
      refine j_icmpF_gt (pc' := 403) (tgt := 454) (nI_nlt (by omega) (by omega)) dL_agrees_400 (by decide) rfl ?_
      refine j_aload_n (pc' := 404) dL_agrees_403 rfl rfl ?_
      refine j_iload (pc' := 406) dL_agrees_404 rfl rfl ?_
      refine j_bipush (pc' := 408) (v := nI 14) dL_agrees_406 rfl rfl ?_
      refine j_cVi (pc' := 411) m_L_31 (p_point hD hV (by omega) (by omega) (a := v (176 + 56 * i + 14)) ((fPt_w hV.z h16 hi (show 14 < 15 from by omega)))) Kd (by decide) rfl rfl rfl ⟨Nat.le_of_ble_eq_true rfl, Nat.le_of_ble_eq_true rfl⟩ ⟨Nat.le_of_ble_eq_true rfl, Nat.le_of_ble_eq_true rfl⟩ (Nat.le_of_ble_eq_true rfl) dL_agrees_408 rfl (fun x1 J1 hq => ?_)
      obtain ⟨hx, hI⟩ := hq
      rw [hx, hI]
      refine jx_cut (B := jx_J E l cL_agrees 13 (some .boolean) RL false rmA 1 5 (fun v' n' kd' R' I' => v' = some (.int (nI 1)) ∧ LZ kd' R' I' d k T B) 1 5 n kd R I2 438 [some (.ref d), some (.int (nI k)), some (.ref a), some (.int ((cntF v 0 i) + (nI 1))), some (.int ((cntF v 6 i) + (nI 1))), some (.int ((cntF v 7 i) + (nI 1))), some (.int ((sm v i) + (v (176 + 56 * i + 14)))), some (.int (nI T)), some (.int (nI i)), some (.int (nI 1)), some (.int (nI 1)), some (.int (nI 0)), some (.int (nI 1))] []) (fun kk => ?_) ?_
      ·
        refine j_if_ne (pc' := 414) (tgt := 418) dL_agrees_411 rfl (by decide) (fun c411 => ?_) (fun c411 => ?_)
        ·
          refine j_iconst (pc' := 419) (v := nI 0) dL_agrees_418 rfl rfl ?_
          refine j_aload_n (pc' := 420) dL_agrees_419 rfl rfl ?_
          refine j_iload (pc' := 422) dL_agrees_420 rfl rfl ?_
          refine j_bipush (pc' := 424) (v := nI 12) dL_agrees_422 rfl rfl ?_
          refine j_cVi (pc' := 427) m_L_31 (p_point hD hV (by omega) (by omega) (a := v (176 + 56 * i + 12)) ((fPt_w hV.z h16 hi (show 12 < 15 from by omega)))) Kd (by decide) rfl rfl rfl ⟨Nat.le_of_ble_eq_true rfl, Nat.le_of_ble_eq_true rfl⟩ ⟨Nat.le_of_ble_eq_true rfl, Nat.le_of_ble_eq_true rfl⟩ (Nat.le_of_ble_eq_true rfl) dL_agrees_424 rfl (fun x1 J1 hq => ?_)
          obtain ⟨hx, hI⟩ := hq
          rw [hx, hI]
          refine j_ifT_ne (tgt := 434) (fun z => c411 (h14.mpr z)) dL_agrees_427 (by decide) ?_
          refine j_iconst (pc' := 435) (v := nI 0) dL_agrees_434 rfl rfl ?_
          refine j_icmpF_ne (pc' := 438) (tgt := 454) (by decide) dL_agrees_435 (by decide) rfl ?_
          exact kk
        ·
          refine j_iconst (pc' := 415) (v := nI 1) dL_agrees_414 rfl rfl ?_
          refine j_goto (tgt := 419) dL_agrees_415 (by decide) ?_
          refine j_aload_n (pc' := 420) dL_agrees_419 rfl rfl ?_
          refine j_iload (pc' := 422) dL_agrees_420 rfl rfl ?_
          refine j_bipush (pc' := 424) (v := nI 12) dL_agrees_422 rfl rfl ?_
          refine j_cVi (pc' := 427) m_L_31 (p_point hD hV (by omega) (by omega) (a := v (176 + 56 * i + 12)) ((fPt_w hV.z h16 hi (show 12 < 15 from by omega)))) Kd (by decide) rfl rfl rfl ⟨Nat.le_of_ble_eq_true rfl, Nat.le_of_ble_eq_true rfl⟩ ⟨Nat.le_of_ble_eq_true rfl, Nat.le_of_ble_eq_true rfl⟩ (Nat.le_of_ble_eq_true rfl) dL_agrees_424 rfl (fun x1 J1 hq => ?_)
          obtain ⟨hx, hI⟩ := hq
          rw [hx, hI]
          refine j_ifF_ne (pc' := 430) (tgt := 434) (h14.mp c411) dL_agrees_427 (by decide) rfl ?_
          refine j_iconst (pc' := 431) (v := nI 1) dL_agrees_430 rfl rfl ?_
          refine j_goto (tgt := 435) dL_agrees_431 (by decide) ?_
          refine j_icmpF_ne (pc' := 438) (tgt := 454) (by decide) dL_agrees_435 (by decide) rfl ?_
          exact kk
      ·
        refine j_aload_n (pc' := 439) dL_agrees_438 rfl rfl ?_
        refine j_iload (pc' := 441) dL_agrees_439 rfl rfl ?_
        refine j_bipush (pc' := 443) (v := nI 14) dL_agrees_441 rfl rfl ?_
        refine j_cVi (pc' := 446) m_L_31 (p_point hD hV (by omega) (by omega) (a := v (176 + 56 * i + 14)) ((fPt_w hV.z h16 hi (show 14 < 15 from by omega)))) Kd (by decide) rfl rfl rfl ⟨Nat.le_of_ble_eq_true rfl, Nat.le_of_ble_eq_true rfl⟩ ⟨Nat.le_of_ble_eq_true rfl, Nat.le_of_ble_eq_true rfl⟩ (Nat.le_of_ble_eq_true rfl) dL_agrees_443 rfl (fun x1 J1 hq => ?_)
        obtain ⟨hx, hI⟩ := hq
        rw [hx, hI]
        refine jx_cut (B := jx_J E l cL_agrees 13 (some .boolean) RL false rmA 1 5 (fun v' n' kd' R' I' => v' = some (.int (nI 1)) ∧ LZ kd' R' I' d k T B) 1 5 n kd R I2 456 [some (.ref d), some (.int (nI k)), some (.ref a), some (.int ((cntF v 0 i) + (nI 1))), some (.int ((cntF v 6 i) + (nI 1))), some (.int ((cntF v 7 i) + (nI 1))), some (.int ((sm v i) + (v (176 + 56 * i + 14)))), some (.int (nI T)), some (.int (nI i)), some (.int (nI 1)), some (.int (nI 1)), some (.int (nI 0)), some (.int (nI 1))] []) (fun kk => ?_) ?_
        ·
          refine j_if_ne (pc' := 449) (tgt := 456) dL_agrees_446 rfl (by decide) (fun c446 => ?_) (fun c446 => ?_)
          ·
            exact kk
          ·
            exact absurd (hal c446) (by rw [h9, h10]; decide)
        ·
          refine j_iincN (pc' := 459) (lv' := [_, _, _, _, _, _, _, _, _, _, _, _, _]) dL_agrees_456 rfl rfl (by decide) rfl ?_
          refine j_goto (tgt := 25) dL_agrees_459 (by decide) ?_
          have e0 : cntF v 0 (i + 1) = cntF v 0 i + nI 1 := cnt_t (by rw [cC0]; exact hst)
          have e6 : cntF v 6 (i + 1) = cntF v 6 i + nI 1 := cnt_t (by rw [cC6]; exact decide_eq_true hsh)
          have e7 : cntF v 7 (i + 1) = cntF v 7 i + nI 1 := cnt_t (by rw [cC7]; exact decide_eq_true h10)
          refine j_eqLA e0 e6 e7 ?_
          exact ih (i + 1) I2 _ _ _ _ (by omega) (by omega) hD hA2
set_option maxRecDepth 100000 in
set_option maxHeartbeats 4000000 in
theorem ag_10_20 {E : jx_E} {l : Launch} {n : Nat} {kd : jx_K} {R : jx_R} {d : Nat} {v p : Nat → Int32} {q B k T S N : Nat} {i a : Nat} {I : jx_I} {y9 y10 y11 y12 : Option Value} (hV : VI v k T S N) (hN : N ≤ B) (hB : B + 100000 < 2147483000) (hP : PI v k T) (hi : i < k) (hka : kd a = (7, 5)) (hda : d + 344 ≤ a) (ih : ∀ (j : Nat) (I : jx_I) (y9 y10 y11 y12 : Option Value), i < j → j ≤ k → DK kd R I d v p q B → (∀ w, w < 5 → I a w = cntF v (w + 1) j) → jx_J E l cL_agrees 13 (some .boolean) RL false rmA 1 5 (fun v' n' kd' R' I' => v' = some (.int (nI 1)) ∧ LZ kd' R' I' d k T B) 1 5 n kd R I 25 [some (.ref d), some (.int (nI k)), some (.ref a), some (.int (cntF v 0 j)), some (.int (cntF v 6 j)), some (.int (cntF v 7 j)), some (.int (sm v j)), some (.int (nI T)), some (.int (nI j)), y9, y10, y11, y12] []) (hD : DK kd R I d v p q B) (hA : ∀ w, w < 5 → I a w = cntF v (w + 1) i) (h9 : v (176 + 56 * i + 9) = nI 1) (h10 : v (176 + 56 * i + 10) = nI 0) (hst : sStand v i = true) (hwf : WF v i 2) (hsh : v (176 + 56 * i + 13) ≤ 0) : jx_J E l cL_agrees 13 (some .boolean) RL false rmA 1 5 (fun v' n' kd' R' I' => v' = some (.int (nI 1)) ∧ LZ kd' R' I' d k T B) 1 5 n kd R I 25 [some (.ref d), some (.int (nI k)), some (.ref a), some (.int (cntF v 0 i)), some (.int (cntF v 6 i)), some (.int (cntF v 7 i)), some (.int (sm v i)), some (.int (nI T)), some (.int (nI i)), y9, y10, y11, y12] [] := by
  have h16 := hV.k16
  have Kd := hD.k5
  have hT := hV.tl
  obtain ⟨hp1, hp2⟩ := hP.1 i hi
  obtain ⟨⟨c, hc, e11⟩, aa, ll, haa, hll, e14, e12, hal0, hz⟩ := hp1
  have h14 : v (176 + 56 * i + 14) = 0 ↔ v (176 + 56 * i + 12) = 0 := by
    rw [e14, e12]
    have x1 := nI_eq (show aa < 2 ^ 31 from by omega) (show 0 < 2 ^ 31 from by omega)
    have x2 := nI_eq (show ll < 2 ^ 31 from by omega) (show 0 < 2 ^ 31 from by omega)
    exact x1.trans (hal0.trans x2.symm)
  have hal : v (176 + 56 * i + 14) = 0 → v (176 + 56 * i + 9) = nI 0 ∧ v (176 + 56 * i + 10) = nI 1 := fun z => hz ((nI_eq (show aa < 2 ^ 31 from by omega) (show 0 < 2 ^ 31 from by omega)).mp (e14.symm.trans z))
  have hgtT : ¬ v (176 + 56 * i + 13) = 0 → ¬ v (176 + 56 * i + 13) ≤ nI T := by
    intro z
    rcases hp2.2 with e | ⟨u, hu, hu2, e⟩
    · exact absurd e z
    · rw [e]; exact nI_ge hu (by omega)
  have hw0 := hwf.1
  refine j_iload (pc' := 27) dL_agrees_25 rfl rfl ?_
  refine j_iload_n (pc' := 28) dL_agrees_27 rfl rfl ?_
  refine j_icmpF_ge (pc' := 31) (tgt := 462) (nI_ge hi (by omega)) dL_agrees_28 (by decide) rfl ?_
  refine j_aload_n (pc' := 32) dL_agrees_31 rfl rfl ?_
  refine j_iload (pc' := 34) dL_agrees_32 rfl rfl ?_
  refine j_bipush (pc' := 36) (v := nI 15) dL_agrees_34 rfl rfl ?_
  refine j_cVi (pc' := 39) m_L_31 (p_point hD hV (by omega) (by omega) (a := nI 2) ((fPt_15 hV.z h16 hi).trans hw0)) Kd (by decide) rfl rfl rfl ⟨Nat.le_of_ble_eq_true rfl, Nat.le_of_ble_eq_true rfl⟩ ⟨Nat.le_of_ble_eq_true rfl, Nat.le_of_ble_eq_true rfl⟩ (Nat.le_of_ble_eq_true rfl) dL_agrees_36 rfl (fun x1 J1 hq => ?_)
  obtain ⟨hx, hI⟩ := hq
  rw [hx, hI]
  refine j_istore (pc' := 41) (lv' := [_, _, _, _, _, _, _, _, _, _, _, _, _]) dL_agrees_39 rfl (by decide) rfl ?_
  refine j_aload_n (pc' := 42) dL_agrees_41 rfl rfl ?_
  refine j_iload (pc' := 44) dL_agrees_42 rfl rfl ?_
  refine j_bipush (pc' := 46) (v := nI 9) dL_agrees_44 rfl rfl ?_
  refine j_cVi (pc' := 49) m_L_31 (p_point hD hV (by omega) (by omega) (a := nI 1) ((fPt_w hV.z h16 hi (show 9 < 15 from by omega)).trans (h9))) Kd (by decide) rfl rfl rfl ⟨Nat.le_of_ble_eq_true rfl, Nat.le_of_ble_eq_true rfl⟩ ⟨Nat.le_of_ble_eq_true rfl, Nat.le_of_ble_eq_true rfl⟩ (Nat.le_of_ble_eq_true rfl) dL_agrees_46 rfl (fun x1 J1 hq => ?_)
  obtain ⟨hx, hI⟩ := hq
  rw [hx, hI]
  refine j_iconst (pc' := 50) (v := nI 1) dL_agrees_49 rfl rfl ?_
  refine j_icmpF_ne (pc' := 53) (tgt := 57) (by decide) dL_agrees_50 (by decide) rfl ?_
  refine j_iconst (pc' := 54) (v := nI 1) dL_agrees_53 rfl rfl ?_
  refine j_goto (tgt := 58) dL_agrees_54 (by decide) ?_
  refine j_istore (pc' := 60) (lv' := [_, _, _, _, _, _, _, _, _, _, _, _, _]) dL_agrees_58 rfl (by decide) rfl ?_
  refine j_aload_n (pc' := 61) dL_agrees_60 rfl rfl ?_
  refine j_iload (pc' := 63) dL_agrees_61 rfl rfl ?_
  refine j_bipush (pc' := 65) (v := nI 10) dL_agrees_63 rfl rfl ?_
  refine j_cVi (pc' := 68) m_L_31 (p_point hD hV (by omega) (by omega) (a := nI 0) ((fPt_w hV.z h16 hi (show 10 < 15 from by omega)).trans (h10))) Kd (by decide) rfl rfl rfl ⟨Nat.le_of_ble_eq_true rfl, Nat.le_of_ble_eq_true rfl⟩ ⟨Nat.le_of_ble_eq_true rfl, Nat.le_of_ble_eq_true rfl⟩ (Nat.le_of_ble_eq_true rfl) dL_agrees_65 rfl (fun x1 J1 hq => ?_)
  obtain ⟨hx, hI⟩ := hq
  rw [hx, hI]
  refine j_iconst (pc' := 69) (v := nI 1) dL_agrees_68 rfl rfl ?_
  refine j_icmpT_ne (tgt := 76) (by decide) dL_agrees_69 (by decide) ?_
  refine j_iconst (pc' := 77) (v := nI 0) dL_agrees_76 rfl rfl ?_
  refine j_istore (pc' := 79) (lv' := [_, _, _, _, _, _, _, _, _, _, _, _, _]) dL_agrees_77 rfl (by decide) rfl ?_
  refine j_iload (pc' := 81) dL_agrees_79 rfl rfl ?_
  refine j_ifT_ne (tgt := 89) (by decide) dL_agrees_81 (by decide) ?_
  refine j_iconst (pc' := 90) (v := nI 1) dL_agrees_89 rfl rfl ?_
  refine j_goto (tgt := 94) dL_agrees_90 (by decide) ?_
  refine j_istore (pc' := 96) (lv' := [_, _, _, _, _, _, _, _, _, _, _, _, _]) dL_agrees_94 rfl (by decide) rfl ?_
  refine j_iload_n (pc' := 97) dL_agrees_96 rfl rfl ?_
  refine j_iload (pc' := 99) dL_agrees_97 rfl rfl ?_
  refine j_ifF_eq (pc' := 102) (tgt := 106) (by decide) dL_agrees_99 (by decide) rfl ?_
  refine j_iconst (pc' := 103) (v := nI 1) dL_agrees_102 rfl rfl ?_
  refine j_goto (tgt := 107) dL_agrees_103 (by decide) ?_
  refine j_iadd (pc' := 108) dL_agrees_107 rfl ?_
  refine j_istore_n (pc' := 109) (lv' := [_, _, _, _, _, _, _, _, _, _, _, _, _]) dL_agrees_108 rfl (by decide) rfl ?_
  refine j_iload (pc' := 111) dL_agrees_109 rfl rfl ?_
  refine j_aload_n (pc' := 112) dL_agrees_111 rfl rfl ?_
  refine j_iload (pc' := 114) dL_agrees_112 rfl rfl ?_
  refine j_bipush (pc' := 116) (v := nI 13) dL_agrees_114 rfl rfl ?_
  refine j_cVi (pc' := 119) m_L_31 (p_point hD hV (by omega) (by omega) (a := v (176 + 56 * i + 13)) ((fPt_w hV.z h16 hi (show 13 < 15 from by omega)))) Kd (by decide) rfl rfl rfl ⟨Nat.le_of_ble_eq_true rfl, Nat.le_of_ble_eq_true rfl⟩ ⟨Nat.le_of_ble_eq_true rfl, Nat.le_of_ble_eq_true rfl⟩ (Nat.le_of_ble_eq_true rfl) dL_agrees_116 rfl (fun x1 J1 hq => ?_)
  obtain ⟨hx, hI⟩ := hq
  rw [hx, hI]
  refine j_ifT_le (tgt := 126) (hsh) dL_agrees_119 (by decide) ?_
  refine j_iconst (pc' := 127) (v := nI 0) dL_agrees_126 rfl rfl ?_
  refine j_iadd (pc' := 128) dL_agrees_127 rfl ?_
  refine j_istore (pc' := 130) (lv' := [_, _, _, _, _, _, _, _, _, _, _, _, _]) dL_agrees_128 rfl (by decide) rfl ?_
  refine j_iload (pc' := 132) dL_agrees_130 rfl rfl ?_
  refine j_iload (pc' := 134) dL_agrees_132 rfl rfl ?_
  refine j_ifT_eq (tgt := 141) (by decide) dL_agrees_134 (by decide) ?_
  refine j_iconst (pc' := 142) (v := nI 1) dL_agrees_141 rfl rfl ?_
  refine j_iadd (pc' := 143) dL_agrees_142 rfl ?_
  refine j_istore (pc' := 145) (lv' := [_, _, _, _, _, _, _, _, _, _, _, _, _]) dL_agrees_143 rfl (by decide) rfl ?_
  refine j_iload (pc' := 147) dL_agrees_145 rfl rfl ?_
  refine j_aload_n (pc' := 148) dL_agrees_147 rfl rfl ?_
  refine j_iload (pc' := 150) dL_agrees_148 rfl rfl ?_
  refine j_bipush (pc' := 152) (v := nI 14) dL_agrees_150 rfl rfl ?_
  refine j_cVi (pc' := 155) m_L_31 (p_point hD hV (by omega) (by omega) (a := v (176 + 56 * i + 14)) ((fPt_w hV.z h16 hi (show 14 < 15 from by omega)))) Kd (by decide) rfl rfl rfl ⟨Nat.le_of_ble_eq_true rfl, Nat.le_of_ble_eq_true rfl⟩ ⟨Nat.le_of_ble_eq_true rfl, Nat.le_of_ble_eq_true rfl⟩ (Nat.le_of_ble_eq_true rfl) dL_agrees_152 rfl (fun x1 J1 hq => ?_)
  obtain ⟨hx, hI⟩ := hq
  rw [hx, hI]
  refine j_iadd (pc' := 156) dL_agrees_155 rfl ?_
  refine j_istore (pc' := 158) (lv' := [_, _, _, _, _, _, _, _, _, _, _, _, _]) dL_agrees_156 rfl (by decide) rfl ?_
  refine j_iload (pc' := 160) dL_agrees_158 rfl rfl ?_
  refine j_ifF_eq (pc' := 163) (tgt := 177) (by decide) dL_agrees_160 (by decide) rfl ?_
  refine j_iload (pc' := 165) dL_agrees_163 rfl rfl ?_
  refine j_ifF_lt (pc' := 168) (tgt := 185) (by decide) dL_agrees_165 (by decide) rfl ?_
  refine j_iload (pc' := 170) dL_agrees_168 rfl rfl ?_
  refine j_iconst (pc' := 171) (v := nI 4) dL_agrees_170 rfl rfl ?_
  refine j_icmpT_le (tgt := 187) (by decide) dL_agrees_171 (by decide) ?_
  refine j_aload_n (pc' := 188) dL_agrees_187 rfl rfl ?_
  refine j_iload (pc' := 190) dL_agrees_188 rfl rfl ?_
  refine j_ifT_ge (tgt := 197) (by decide) dL_agrees_190 (by decide) ?_
  refine j_iload (pc' := 199) dL_agrees_197 rfl rfl ?_
  refine j_dup2 (pc' := 200) dL_agrees_199 rfl rfl rfl ?_
  refine j_ialdv (pc' := 201) hka rfl (by decide) (by decide) (hA _ (by decide)) dL_agrees_200 rfl ?_
  refine j_iload (pc' := 203) dL_agrees_201 rfl rfl ?_
  refine j_ifF_eq (pc' := 206) (tgt := 210) (by decide) dL_agrees_203 (by decide) rfl ?_
  refine j_iconst (pc' := 207) (v := nI 1) dL_agrees_206 rfl rfl ?_
  refine j_goto (tgt := 211) dL_agrees_207 (by decide) ?_
  refine j_iadd (pc' := 212) dL_agrees_211 rfl ?_
  refine j_iast (pc' := 213) hka rfl (by decide) (by decide) dL_agrees_212 rfl ?_
  have hD2 := hD.upA (j := 2) (x := cntF v 3 i + nI 1) hda
  have hA2 := why_up (a := a) (by decide) hw0 hA
  change jx_J E l cL_agrees 13 (some .boolean) RL false rmA 1 5 (fun v' n' kd' R' I' => v' = some (.int (nI 1)) ∧ LZ kd' R' I' d k T B) 1 5 n kd R (jx_up I a 2 (cntF v 3 i + nI 1)) 213 _ _
  generalize jx_up I a 2 (cntF v 3 i + nI 1) = I2 at hD2 hA2 ⊢
  have hD := hD2
  refine j_aload_n (pc' := 214) dL_agrees_213 rfl rfl ?_
  refine j_iload (pc' := 216) dL_agrees_214 rfl rfl ?_
  refine j_iconst (pc' := 217) (v := nI 5) dL_agrees_216 rfl rfl ?_
  refine j_cVi (pc' := 220) m_L_31 (p_point hD hV (by omega) (by omega) (a := v (176 + 56 * i + 5)) ((fPt_w hV.z h16 hi (show 5 < 15 from by omega)))) Kd (by decide) rfl rfl rfl ⟨Nat.le_of_ble_eq_true rfl, Nat.le_of_ble_eq_true rfl⟩ ⟨Nat.le_of_ble_eq_true rfl, Nat.le_of_ble_eq_true rfl⟩ (Nat.le_of_ble_eq_true rfl) dL_agrees_217 rfl (fun x1 J1 hq => ?_)
  obtain ⟨hx, hI⟩ := hq
  rw [hx, hI]
  refine j_iconst (pc' := 221) (v := nI 1) dL_agrees_220 rfl rfl ?_
  refine j_icmpT_ne (tgt := 240) (hwf.2.2.2.1 (by omega)) dL_agrees_221 (by decide) ?_
  refine j_aload_n (pc' := 241) dL_agrees_240 rfl rfl ?_
  refine j_iload (pc' := 243) dL_agrees_241 rfl rfl ?_
  refine j_bipush (pc' := 245) (v := nI 13) dL_agrees_243 rfl rfl ?_
  refine j_cVi (pc' := 248) m_L_31 (p_point hD hV (by omega) (by omega) (a := v (176 + 56 * i + 13)) ((fPt_w hV.z h16 hi (show 13 < 15 from by omega)))) Kd (by decide) rfl rfl rfl ⟨Nat.le_of_ble_eq_true rfl, Nat.le_of_ble_eq_true rfl⟩ ⟨Nat.le_of_ble_eq_true rfl, Nat.le_of_ble_eq_true rfl⟩ (Nat.le_of_ble_eq_true rfl) dL_agrees_245 rfl (fun x1 J1 hq => ?_)
  obtain ⟨hx, hI⟩ := hq
  rw [hx, hI]
  refine jx_cut (B := jx_J E l cL_agrees 13 (some .boolean) RL false rmA 1 5 (fun v' n' kd' R' I' => v' = some (.int (nI 1)) ∧ LZ kd' R' I' d k T B) 1 5 n kd R I2 264 [some (.ref d), some (.int (nI k)), some (.ref a), some (.int ((cntF v 0 i) + (nI 1))), some (.int ((cntF v 6 i) + (nI 0))), some (.int ((cntF v 7 i) + (nI 1))), some (.int ((sm v i) + (v (176 + 56 * i + 14)))), some (.int (nI T)), some (.int (nI i)), some (.int (nI 2)), some (.int (nI 1)), some (.int (nI 0)), some (.int (nI 1))] []) (fun kk => ?_) ?_
  ·
    refine j_if_eq (pc' := 251) (tgt := 264) dL_agrees_248 rfl (by decide) (fun c248 => ?_) (fun c248 => ?_)
    ·
      exact kk
    ·
      refine j_aload_n (pc' := 252) dL_agrees_251 rfl rfl ?_
      refine j_iload (pc' := 254) dL_agrees_252 rfl rfl ?_
      refine j_bipush (pc' := 256) (v := nI 13) dL_agrees_254 rfl rfl ?_
      refine j_cVi (pc' := 259) m_L_31 (p_point hD hV (by omega) (by omega) (a := v (176 + 56 * i + 13)) ((fPt_w hV.z h16 hi (show 13 < 15 from by omega)))) Kd (by decide) rfl rfl rfl ⟨Nat.le_of_ble_eq_true rfl, Nat.le_of_ble_eq_true rfl⟩ ⟨Nat.le_of_ble_eq_true rfl, Nat.le_of_ble_eq_true rfl⟩ (Nat.le_of_ble_eq_true rfl) dL_agrees_256 rfl (fun x1 J1 hq => ?_)
      obtain ⟨hx, hI⟩ := hq
      rw [hx, hI]
      refine j_iload (pc' := 261) dL_agrees_259 rfl rfl ?_
      refine j_icmpF_le (pc' := 264) (tgt := 348) (hgtT c248) dL_agrees_261 (by decide) rfl ?_
      exact kk
  ·
    refine j_iload (pc' := 266) dL_agrees_264 rfl rfl ?_
    refine j_iconst (pc' := 267) (v := nI 1) dL_agrees_266 rfl rfl ?_
    refine j_icmpT_ne (tgt := 281) (by decide) dL_agrees_267 (by decide) ?_
    refine j_iload (pc' := 283) dL_agrees_281 rfl rfl ?_
    refine j_iconst (pc' := 284) (v := nI 2) dL_agrees_283 rfl rfl ?_
    refine j_icmpF_ne (pc' := 287) (tgt := 306) (by decide) dL_agrees_284 (by decide) rfl ?_
    refine j_aload_n (pc' := 288) dL_agrees_287 rfl rfl ?_
    refine j_iload (pc' := 290) dL_agrees_288 rfl rfl ?_
    refine j_bipush (pc' := 292) (v := nI 6) dL_agrees_290 rfl rfl ?_
    refine j_cVi (pc' := 295) m_L_31 (p_point hD hV (by omega) (by omega) (a := v (176 + 56 * i + 6)) ((fPt_w hV.z h16 hi (show 6 < 15 from by omega)))) Kd (by decide) rfl rfl rfl ⟨Nat.le_of_ble_eq_true rfl, Nat.le_of_ble_eq_true rfl⟩ ⟨Nat.le_of_ble_eq_true rfl, Nat.le_of_ble_eq_true rfl⟩ (Nat.le_of_ble_eq_true rfl) dL_agrees_292 rfl (fun x1 J1 hq => ?_)
    obtain ⟨hx, hI⟩ := hq
    rw [hx, hI]
    refine j_aload_n (pc' := 296) dL_agrees_295 rfl rfl ?_
    refine j_iconst (pc' := 297) (v := nI 1) dL_agrees_296 rfl rfl ?_
    refine j_cVi (pc' := 300) m_L_44 (p_plant hD hV (by omega) (by omega) (a := v 2) (fPl_1)) Kd (by decide) rfl rfl rfl ⟨Nat.le_of_ble_eq_true rfl, Nat.le_of_ble_eq_true rfl⟩ ⟨Nat.le_of_ble_eq_true rfl, Nat.le_of_ble_eq_true rfl⟩ (Nat.le_of_ble_eq_true rfl) dL_agrees_297 rfl (fun x1 J1 hq => ?_)
    obtain ⟨hx, hI⟩ := hq
    rw [hx, hI]
    refine j_ishr (pc' := 301) dL_agrees_300 rfl ?_
    refine j_iconst (pc' := 302) (v := nI 1) dL_agrees_301 rfl rfl ?_
    refine j_iand (pc' := 303) dL_agrees_302 rfl ?_
    refine j_ifF_eq (pc' := 306) (tgt := 348) (by rw [hwf.2.2.2.2.1 rfl]; decide) dL_agrees_303 (by decide) rfl ?_
    refine j_iload (pc' := 308) dL_agrees_306 rfl rfl ?_
    refine j_iconst (pc' := 309) (v := nI 3) dL_agrees_308 rfl rfl ?_
    refine j_icmpT_ne (tgt := 323) (by decide) dL_agrees_309 (by decide) ?_
    refine j_iload (pc' := 325) dL_agrees_323 rfl rfl ?_
    refine j_iconst (pc' := 326) (v := nI 4) dL_agrees_325 rfl rfl ?_
    refine j_icmpT_ne (tgt := 350) (by decide) dL_agrees_326 (by decide) ?_
    refine j_aload_n (pc' := 351) dL_agrees_350 rfl rfl ?_
    refine j_iload (pc' := 353) dL_agrees_351 rfl rfl ?_
    refine j_bipush (pc' := 355) (v := nI 11) dL_agrees_353 rfl rfl ?_
    refine j_cVi (pc' := 358) m_L_31 (p_point hD hV (by omega) (by omega) (a := v (176 + 56 * i + 11)) ((fPt_w hV.z h16 hi (show 11 < 15 from by omega)))) Kd (by decide) rfl rfl rfl ⟨Nat.le_of_ble_eq_true rfl, Nat.le_of_ble_eq_true rfl⟩ ⟨Nat.le_of_ble_eq_true rfl, Nat.le_of_ble_eq_true rfl⟩ (Nat.le_of_ble_eq_true rfl) dL_agrees_355 rfl (fun x1 J1 hq => ?_)
    obtain ⟨hx, hI⟩ := hq
    rw [hx, hI]
    refine j_aload_n (pc' := 359) dL_agrees_358 rfl rfl ?_
    refine j_iload (pc' := 361) dL_agrees_359 rfl rfl ?_
    refine j_iload (pc' := 363) dL_agrees_361 rfl rfl ?_
    refine j_ifF_eq (pc' := 366) (tgt := 370) (by decide) dL_agrees_363 (by decide) rfl ?_
    refine j_iconst (pc' := 367) (v := nI 4) dL_agrees_366 rfl rfl ?_
    refine j_goto (tgt := 371) dL_agrees_367 (by decide) ?_
    refine j_cVi (pc' := 374) m_L_31 (p_point hD hV (by omega) (by omega) (a := v (176 + 56 * i + 4)) ((fPt_w hV.z h16 hi (show 4 < 15 from by omega)))) Kd (by decide) rfl rfl rfl ⟨Nat.le_of_ble_eq_true rfl, Nat.le_of_ble_eq_true rfl⟩ ⟨Nat.le_of_ble_eq_true rfl, Nat.le_of_ble_eq_true rfl⟩ (Nat.le_of_ble_eq_true rfl) dL_agrees_371 rfl (fun x1 J1 hq => ?_)
    obtain ⟨hx, hI⟩ := hq
    rw [hx, hI]
    refine jx_cut (B := jx_J E l cL_agrees 13 (some .boolean) RL false rmA 1 5 (fun v' n' kd' R' I' => v' = some (.int (nI 1)) ∧ LZ kd' R' I' d k T B) 1 5 n kd R I2 390 [some (.ref d), some (.int (nI k)), some (.ref a), some (.int ((cntF v 0 i) + (nI 1))), some (.int ((cntF v 6 i) + (nI 0))), some (.int ((cntF v 7 i) + (nI 1))), some (.int ((sm v i) + (v (176 + 56 * i + 14)))), some (.int (nI T)), some (.int (nI i)), some (.int (nI 2)), some (.int (nI 1)), some (.int (nI 0)), some (.int (nI 1))] []) (fun kk => ?_) ?_
    ·
      refine j_icmp_le (pc' := 377) (tgt := 390) dL_agrees_374 rfl (by decide) (fun c374 => ?_) (fun c374 => ?_)
      ·
        exact kk
      ·
        refine j_aload_n (pc' := 378) dL_agrees_377 rfl rfl ?_
        refine j_iload (pc' := 380) dL_agrees_378 rfl rfl ?_
        refine j_bipush (pc' := 382) (v := nI 11) dL_agrees_380 rfl rfl ?_
        refine j_cVi (pc' := 385) m_L_31 (p_point hD hV (by omega) (by omega) (a := nI c) ((fPt_w hV.z h16 hi (show 11 < 15 from by omega)).trans (e11))) Kd (by decide) rfl rfl rfl ⟨Nat.le_of_ble_eq_true rfl, Nat.le_of_ble_eq_true rfl⟩ ⟨Nat.le_of_ble_eq_true rfl, Nat.le_of_ble_eq_true rfl⟩ (Nat.le_of_ble_eq_true rfl) dL_agrees_382 rfl (fun x1 J1 hq => ?_)
        obtain ⟨hx, hI⟩ := hq
        rw [hx, hI]
        refine j_bipush (pc' := 387) (v := nI 20) dL_agrees_385 rfl rfl ?_
        refine j_icmpF_gt (pc' := 390) (tgt := 454) (nI_nlt (by omega) (by omega)) dL_agrees_387 (by decide) rfl ?_
        exact kk
    ·
      refine j_aload_n (pc' := 391) dL_agrees_390 rfl rfl ?_
      refine j_iload (pc' := 393) dL_agrees_391 rfl rfl ?_
      refine j_bipush (pc' := 395) (v := nI 12) dL_agrees_393 rfl rfl ?_
      refine j_cVi (pc' := 398) m_L_31 (p_point hD hV (by omega) (by omega) (a := nI ll) ((fPt_w hV.z h16 hi (show 12 < 15 from by omega)).trans (e12))) Kd (by decide) rfl rfl rfl ⟨Nat.le_of_ble_eq_true rfl, Nat.le_of_ble_eq_true rfl⟩ ⟨Nat.le_of_ble_eq_true rfl, Nat.le_of_ble_eq_true rfl⟩ (Nat.le_of_ble_eq_true rfl) dL_agrees_395 rfl (fun x1 J1 hq => ?_)
      obtain ⟨hx, hI⟩ := hq
      rw [hx, hI]
      refine j_iload (pc' := 400) dL_agrees_398 rfl rfl ?_
      refine j_icmpF_gt (pc' := 403) (tgt := 454) (nI_nlt (by omega) (by omega)) dL_agrees_400 (by decide) rfl ?_
      refine j_aload_n (pc' := 404) dL_agrees_403 rfl rfl ?_
      refine j_iload (pc' := 406) dL_agrees_404 rfl rfl ?_
      refine j_bipush (pc' := 408) (v := nI 14) dL_agrees_406 rfl rfl ?_
      refine j_cVi (pc' := 411) m_L_31 (p_point hD hV (by omega) (by omega) (a := v (176 + 56 * i + 14)) ((fPt_w hV.z h16 hi (show 14 < 15 from by omega)))) Kd (by decide) rfl rfl rfl ⟨Nat.le_of_ble_eq_true rfl, Nat.le_of_ble_eq_true rfl⟩ ⟨Nat.le_of_ble_eq_true rfl, Nat.le_of_ble_eq_true rfl⟩ (Nat.le_of_ble_eq_true rfl) dL_agrees_408 rfl (fun x1 J1 hq => ?_)
      obtain ⟨hx, hI⟩ := hq
      rw [hx, hI]
      refine jx_cut (B := jx_J E l cL_agrees 13 (some .boolean) RL false rmA 1 5 (fun v' n' kd' R' I' => v' = some (.int (nI 1)) ∧ LZ kd' R' I' d k T B) 1 5 n kd R I2 438 [some (.ref d), some (.int (nI k)), some (.ref a), some (.int ((cntF v 0 i) + (nI 1))), some (.int ((cntF v 6 i) + (nI 0))), some (.int ((cntF v 7 i) + (nI 1))), some (.int ((sm v i) + (v (176 + 56 * i + 14)))), some (.int (nI T)), some (.int (nI i)), some (.int (nI 2)), some (.int (nI 1)), some (.int (nI 0)), some (.int (nI 1))] []) (fun kk => ?_) ?_
      ·
        refine j_if_ne (pc' := 414) (tgt := 418) dL_agrees_411 rfl (by decide) (fun c411 => ?_) (fun c411 => ?_)
        ·
          refine j_iconst (pc' := 419) (v := nI 0) dL_agrees_418 rfl rfl ?_
          refine j_aload_n (pc' := 420) dL_agrees_419 rfl rfl ?_
          refine j_iload (pc' := 422) dL_agrees_420 rfl rfl ?_
          refine j_bipush (pc' := 424) (v := nI 12) dL_agrees_422 rfl rfl ?_
          refine j_cVi (pc' := 427) m_L_31 (p_point hD hV (by omega) (by omega) (a := v (176 + 56 * i + 12)) ((fPt_w hV.z h16 hi (show 12 < 15 from by omega)))) Kd (by decide) rfl rfl rfl ⟨Nat.le_of_ble_eq_true rfl, Nat.le_of_ble_eq_true rfl⟩ ⟨Nat.le_of_ble_eq_true rfl, Nat.le_of_ble_eq_true rfl⟩ (Nat.le_of_ble_eq_true rfl) dL_agrees_424 rfl (fun x1 J1 hq => ?_)
          obtain ⟨hx, hI⟩ := hq
          rw [hx, hI]
          refine j_ifT_ne (tgt := 434) (fun z => c411 (h14.mpr z)) dL_agrees_427 (by decide) ?_
          refine j_iconst (pc' := 435) (v := nI 0) dL_agrees_434 rfl rfl ?_
          refine j_icmpF_ne (pc' := 438) (tgt := 454) (by decide) dL_agrees_435 (by decide) rfl ?_
          exact kk
        ·
          refine j_iconst (pc' := 415) (v := nI 1) dL_agrees_414 rfl rfl ?_
          refine j_goto (tgt := 419) dL_agrees_415 (by decide) ?_
          refine j_aload_n (pc' := 420) dL_agrees_419 rfl rfl ?_
          refine j_iload (pc' := 422) dL_agrees_420 rfl rfl ?_
          refine j_bipush (pc' := 424) (v := nI 12) dL_agrees_422 rfl rfl ?_
          refine j_cVi (pc' := 427) m_L_31 (p_point hD hV (by omega) (by omega) (a := v (176 + 56 * i + 12)) ((fPt_w hV.z h16 hi (show 12 < 15 from by omega)))) Kd (by decide) rfl rfl rfl ⟨Nat.le_of_ble_eq_true rfl, Nat.le_of_ble_eq_true rfl⟩ ⟨Nat.le_of_ble_eq_true rfl, Nat.le_of_ble_eq_true rfl⟩ (Nat.le_of_ble_eq_true rfl) dL_agrees_424 rfl (fun x1 J1 hq => ?_)
          obtain ⟨hx, hI⟩ := hq
          rw [hx, hI]
          refine j_ifF_ne (pc' := 430) (tgt := 434) (h14.mp c411) dL_agrees_427 (by decide) rfl ?_
          refine j_iconst (pc' := 431) (v := nI 1) dL_agrees_430 rfl rfl ?_
          refine j_goto (tgt := 435) dL_agrees_431 (by decide) ?_
          refine j_icmpF_ne (pc' := 438) (tgt := 454) (by decide) dL_agrees_435 (by decide) rfl ?_
          exact kk
      ·
        refine j_aload_n (pc' := 439) dL_agrees_438 rfl rfl ?_
        refine j_iload (pc' := 441) dL_agrees_439 rfl rfl ?_
        refine j_bipush (pc' := 443) (v := nI 14) dL_agrees_441 rfl rfl ?_
        refine j_cVi (pc' := 446) m_L_31 (p_point hD hV (by omega) (by omega) (a := v (176 + 56 * i + 14)) ((fPt_w hV.z h16 hi (show 14 < 15 from by omega)))) Kd (by decide) rfl rfl rfl ⟨Nat.le_of_ble_eq_true rfl, Nat.le_of_ble_eq_true rfl⟩ ⟨Nat.le_of_ble_eq_true rfl, Nat.le_of_ble_eq_true rfl⟩ (Nat.le_of_ble_eq_true rfl) dL_agrees_443 rfl (fun x1 J1 hq => ?_)
        obtain ⟨hx, hI⟩ := hq
        rw [hx, hI]
        refine jx_cut (B := jx_J E l cL_agrees 13 (some .boolean) RL false rmA 1 5 (fun v' n' kd' R' I' => v' = some (.int (nI 1)) ∧ LZ kd' R' I' d k T B) 1 5 n kd R I2 456 [some (.ref d), some (.int (nI k)), some (.ref a), some (.int ((cntF v 0 i) + (nI 1))), some (.int ((cntF v 6 i) + (nI 0))), some (.int ((cntF v 7 i) + (nI 1))), some (.int ((sm v i) + (v (176 + 56 * i + 14)))), some (.int (nI T)), some (.int (nI i)), some (.int (nI 2)), some (.int (nI 1)), some (.int (nI 0)), some (.int (nI 1))] []) (fun kk => ?_) ?_
        ·
          refine j_if_ne (pc' := 449) (tgt := 456) dL_agrees_446 rfl (by decide) (fun c446 => ?_) (fun c446 => ?_)
          ·
            exact kk
          ·
            exact absurd (hal c446) (by rw [h9, h10]; decide)
        ·
          refine j_iincN (pc' := 459) (lv' := [_, _, _, _, _, _, _, _, _, _, _, _, _]) dL_agrees_456 rfl rfl (by decide) rfl ?_
          refine j_goto (tgt := 25) dL_agrees_459 (by decide) ?_
          have e0 : cntF v 0 (i + 1) = cntF v 0 i + nI 1 := cnt_t (by rw [cC0]; exact hst)
          have e6 : cntF v 6 (i + 1) = cntF v 6 i + nI 0 := cnt_f (by rw [cC6]; exact decide_eq_false (fun z => z hsh))
          have e7 : cntF v 7 (i + 1) = cntF v 7 i + nI 1 := cnt_t (by rw [cC7]; exact decide_eq_true h10)
          refine j_eqLA e0 e6 e7 ?_
          exact ih (i + 1) I2 _ _ _ _ (by omega) (by omega) hD hA2
set_option maxRecDepth 100000 in
set_option maxHeartbeats 4000000 in
theorem ag_10_30 {E : jx_E} {l : Launch} {n : Nat} {kd : jx_K} {R : jx_R} {d : Nat} {v p : Nat → Int32} {q B k T S N : Nat} {i a : Nat} {I : jx_I} {y9 y10 y11 y12 : Option Value} (hV : VI v k T S N) (hN : N ≤ B) (hB : B + 100000 < 2147483000) (hP : PI v k T) (hi : i < k) (hka : kd a = (7, 5)) (hda : d + 344 ≤ a) (ih : ∀ (j : Nat) (I : jx_I) (y9 y10 y11 y12 : Option Value), i < j → j ≤ k → DK kd R I d v p q B → (∀ w, w < 5 → I a w = cntF v (w + 1) j) → jx_J E l cL_agrees 13 (some .boolean) RL false rmA 1 5 (fun v' n' kd' R' I' => v' = some (.int (nI 1)) ∧ LZ kd' R' I' d k T B) 1 5 n kd R I 25 [some (.ref d), some (.int (nI k)), some (.ref a), some (.int (cntF v 0 j)), some (.int (cntF v 6 j)), some (.int (cntF v 7 j)), some (.int (sm v j)), some (.int (nI T)), some (.int (nI j)), y9, y10, y11, y12] []) (hD : DK kd R I d v p q B) (hA : ∀ w, w < 5 → I a w = cntF v (w + 1) i) (h9 : v (176 + 56 * i + 9) = nI 1) (h10 : v (176 + 56 * i + 10) = nI 0) (hst : sStand v i = true) (hwf : WF v i 3) (hsh : v (176 + 56 * i + 13) ≤ 0) : jx_J E l cL_agrees 13 (some .boolean) RL false rmA 1 5 (fun v' n' kd' R' I' => v' = some (.int (nI 1)) ∧ LZ kd' R' I' d k T B) 1 5 n kd R I 25 [some (.ref d), some (.int (nI k)), some (.ref a), some (.int (cntF v 0 i)), some (.int (cntF v 6 i)), some (.int (cntF v 7 i)), some (.int (sm v i)), some (.int (nI T)), some (.int (nI i)), y9, y10, y11, y12] [] := by
  have h16 := hV.k16
  have Kd := hD.k5
  have hT := hV.tl
  obtain ⟨hp1, hp2⟩ := hP.1 i hi
  obtain ⟨⟨c, hc, e11⟩, aa, ll, haa, hll, e14, e12, hal0, hz⟩ := hp1
  have h14 : v (176 + 56 * i + 14) = 0 ↔ v (176 + 56 * i + 12) = 0 := by
    rw [e14, e12]
    have x1 := nI_eq (show aa < 2 ^ 31 from by omega) (show 0 < 2 ^ 31 from by omega)
    have x2 := nI_eq (show ll < 2 ^ 31 from by omega) (show 0 < 2 ^ 31 from by omega)
    exact x1.trans (hal0.trans x2.symm)
  have hal : v (176 + 56 * i + 14) = 0 → v (176 + 56 * i + 9) = nI 0 ∧ v (176 + 56 * i + 10) = nI 1 := fun z => hz ((nI_eq (show aa < 2 ^ 31 from by omega) (show 0 < 2 ^ 31 from by omega)).mp (e14.symm.trans z))
  have hgtT : ¬ v (176 + 56 * i + 13) = 0 → ¬ v (176 + 56 * i + 13) ≤ nI T := by
    intro z
    rcases hp2.2 with e | ⟨u, hu, hu2, e⟩
    · exact absurd e z
    · rw [e]; exact nI_ge hu (by omega)
  have hw0 := hwf.1
  refine j_iload (pc' := 27) dL_agrees_25 rfl rfl ?_
  refine j_iload_n (pc' := 28) dL_agrees_27 rfl rfl ?_
  refine j_icmpF_ge (pc' := 31) (tgt := 462) (nI_ge hi (by omega)) dL_agrees_28 (by decide) rfl ?_
  refine j_aload_n (pc' := 32) dL_agrees_31 rfl rfl ?_
  refine j_iload (pc' := 34) dL_agrees_32 rfl rfl ?_
  refine j_bipush (pc' := 36) (v := nI 15) dL_agrees_34 rfl rfl ?_
  refine j_cVi (pc' := 39) m_L_31 (p_point hD hV (by omega) (by omega) (a := nI 3) ((fPt_15 hV.z h16 hi).trans hw0)) Kd (by decide) rfl rfl rfl ⟨Nat.le_of_ble_eq_true rfl, Nat.le_of_ble_eq_true rfl⟩ ⟨Nat.le_of_ble_eq_true rfl, Nat.le_of_ble_eq_true rfl⟩ (Nat.le_of_ble_eq_true rfl) dL_agrees_36 rfl (fun x1 J1 hq => ?_)
  obtain ⟨hx, hI⟩ := hq
  rw [hx, hI]
  refine j_istore (pc' := 41) (lv' := [_, _, _, _, _, _, _, _, _, _, _, _, _]) dL_agrees_39 rfl (by decide) rfl ?_
  refine j_aload_n (pc' := 42) dL_agrees_41 rfl rfl ?_
  refine j_iload (pc' := 44) dL_agrees_42 rfl rfl ?_
  refine j_bipush (pc' := 46) (v := nI 9) dL_agrees_44 rfl rfl ?_
  refine j_cVi (pc' := 49) m_L_31 (p_point hD hV (by omega) (by omega) (a := nI 1) ((fPt_w hV.z h16 hi (show 9 < 15 from by omega)).trans (h9))) Kd (by decide) rfl rfl rfl ⟨Nat.le_of_ble_eq_true rfl, Nat.le_of_ble_eq_true rfl⟩ ⟨Nat.le_of_ble_eq_true rfl, Nat.le_of_ble_eq_true rfl⟩ (Nat.le_of_ble_eq_true rfl) dL_agrees_46 rfl (fun x1 J1 hq => ?_)
  obtain ⟨hx, hI⟩ := hq
  rw [hx, hI]
  refine j_iconst (pc' := 50) (v := nI 1) dL_agrees_49 rfl rfl ?_
  refine j_icmpF_ne (pc' := 53) (tgt := 57) (by decide) dL_agrees_50 (by decide) rfl ?_
  refine j_iconst (pc' := 54) (v := nI 1) dL_agrees_53 rfl rfl ?_
  refine j_goto (tgt := 58) dL_agrees_54 (by decide) ?_
  refine j_istore (pc' := 60) (lv' := [_, _, _, _, _, _, _, _, _, _, _, _, _]) dL_agrees_58 rfl (by decide) rfl ?_
  refine j_aload_n (pc' := 61) dL_agrees_60 rfl rfl ?_
  refine j_iload (pc' := 63) dL_agrees_61 rfl rfl ?_
  refine j_bipush (pc' := 65) (v := nI 10) dL_agrees_63 rfl rfl ?_
  refine j_cVi (pc' := 68) m_L_31 (p_point hD hV (by omega) (by omega) (a := nI 0) ((fPt_w hV.z h16 hi (show 10 < 15 from by omega)).trans (h10))) Kd (by decide) rfl rfl rfl ⟨Nat.le_of_ble_eq_true rfl, Nat.le_of_ble_eq_true rfl⟩ ⟨Nat.le_of_ble_eq_true rfl, Nat.le_of_ble_eq_true rfl⟩ (Nat.le_of_ble_eq_true rfl) dL_agrees_65 rfl (fun x1 J1 hq => ?_)
  obtain ⟨hx, hI⟩ := hq
  rw [hx, hI]
  refine j_iconst (pc' := 69) (v := nI 1) dL_agrees_68 rfl rfl ?_
  refine j_icmpT_ne (tgt := 76) (by decide) dL_agrees_69 (by decide) ?_
  refine j_iconst (pc' := 77) (v := nI 0) dL_agrees_76 rfl rfl ?_
  refine j_istore (pc' := 79) (lv' := [_, _, _, _, _, _, _, _, _, _, _, _, _]) dL_agrees_77 rfl (by decide) rfl ?_
  refine j_iload (pc' := 81) dL_agrees_79 rfl rfl ?_
  refine j_ifT_ne (tgt := 89) (by decide) dL_agrees_81 (by decide) ?_
  refine j_iconst (pc' := 90) (v := nI 1) dL_agrees_89 rfl rfl ?_
  refine j_goto (tgt := 94) dL_agrees_90 (by decide) ?_
  refine j_istore (pc' := 96) (lv' := [_, _, _, _, _, _, _, _, _, _, _, _, _]) dL_agrees_94 rfl (by decide) rfl ?_
  refine j_iload_n (pc' := 97) dL_agrees_96 rfl rfl ?_
  refine j_iload (pc' := 99) dL_agrees_97 rfl rfl ?_
  refine j_ifF_eq (pc' := 102) (tgt := 106) (by decide) dL_agrees_99 (by decide) rfl ?_
  refine j_iconst (pc' := 103) (v := nI 1) dL_agrees_102 rfl rfl ?_
  refine j_goto (tgt := 107) dL_agrees_103 (by decide) ?_
  refine j_iadd (pc' := 108) dL_agrees_107 rfl ?_
  refine j_istore_n (pc' := 109) (lv' := [_, _, _, _, _, _, _, _, _, _, _, _, _]) dL_agrees_108 rfl (by decide) rfl ?_
  refine j_iload (pc' := 111) dL_agrees_109 rfl rfl ?_
  refine j_aload_n (pc' := 112) dL_agrees_111 rfl rfl ?_
  refine j_iload (pc' := 114) dL_agrees_112 rfl rfl ?_
  refine j_bipush (pc' := 116) (v := nI 13) dL_agrees_114 rfl rfl ?_
  refine j_cVi (pc' := 119) m_L_31 (p_point hD hV (by omega) (by omega) (a := v (176 + 56 * i + 13)) ((fPt_w hV.z h16 hi (show 13 < 15 from by omega)))) Kd (by decide) rfl rfl rfl ⟨Nat.le_of_ble_eq_true rfl, Nat.le_of_ble_eq_true rfl⟩ ⟨Nat.le_of_ble_eq_true rfl, Nat.le_of_ble_eq_true rfl⟩ (Nat.le_of_ble_eq_true rfl) dL_agrees_116 rfl (fun x1 J1 hq => ?_)
  obtain ⟨hx, hI⟩ := hq
  rw [hx, hI]
  refine j_ifT_le (tgt := 126) (hsh) dL_agrees_119 (by decide) ?_
  refine j_iconst (pc' := 127) (v := nI 0) dL_agrees_126 rfl rfl ?_
  refine j_iadd (pc' := 128) dL_agrees_127 rfl ?_
  refine j_istore (pc' := 130) (lv' := [_, _, _, _, _, _, _, _, _, _, _, _, _]) dL_agrees_128 rfl (by decide) rfl ?_
  refine j_iload (pc' := 132) dL_agrees_130 rfl rfl ?_
  refine j_iload (pc' := 134) dL_agrees_132 rfl rfl ?_
  refine j_ifT_eq (tgt := 141) (by decide) dL_agrees_134 (by decide) ?_
  refine j_iconst (pc' := 142) (v := nI 1) dL_agrees_141 rfl rfl ?_
  refine j_iadd (pc' := 143) dL_agrees_142 rfl ?_
  refine j_istore (pc' := 145) (lv' := [_, _, _, _, _, _, _, _, _, _, _, _, _]) dL_agrees_143 rfl (by decide) rfl ?_
  refine j_iload (pc' := 147) dL_agrees_145 rfl rfl ?_
  refine j_aload_n (pc' := 148) dL_agrees_147 rfl rfl ?_
  refine j_iload (pc' := 150) dL_agrees_148 rfl rfl ?_
  refine j_bipush (pc' := 152) (v := nI 14) dL_agrees_150 rfl rfl ?_
  refine j_cVi (pc' := 155) m_L_31 (p_point hD hV (by omega) (by omega) (a := v (176 + 56 * i + 14)) ((fPt_w hV.z h16 hi (show 14 < 15 from by omega)))) Kd (by decide) rfl rfl rfl ⟨Nat.le_of_ble_eq_true rfl, Nat.le_of_ble_eq_true rfl⟩ ⟨Nat.le_of_ble_eq_true rfl, Nat.le_of_ble_eq_true rfl⟩ (Nat.le_of_ble_eq_true rfl) dL_agrees_152 rfl (fun x1 J1 hq => ?_)
  obtain ⟨hx, hI⟩ := hq
  rw [hx, hI]
  refine j_iadd (pc' := 156) dL_agrees_155 rfl ?_
  refine j_istore (pc' := 158) (lv' := [_, _, _, _, _, _, _, _, _, _, _, _, _]) dL_agrees_156 rfl (by decide) rfl ?_
  refine j_iload (pc' := 160) dL_agrees_158 rfl rfl ?_
  refine j_ifF_eq (pc' := 163) (tgt := 177) (by decide) dL_agrees_160 (by decide) rfl ?_
  refine j_iload (pc' := 165) dL_agrees_163 rfl rfl ?_
  refine j_ifF_lt (pc' := 168) (tgt := 185) (by decide) dL_agrees_165 (by decide) rfl ?_
  refine j_iload (pc' := 170) dL_agrees_168 rfl rfl ?_
  refine j_iconst (pc' := 171) (v := nI 4) dL_agrees_170 rfl rfl ?_
  refine j_icmpT_le (tgt := 187) (by decide) dL_agrees_171 (by decide) ?_
  refine j_aload_n (pc' := 188) dL_agrees_187 rfl rfl ?_
  refine j_iload (pc' := 190) dL_agrees_188 rfl rfl ?_
  refine j_ifT_ge (tgt := 197) (by decide) dL_agrees_190 (by decide) ?_
  refine j_iload (pc' := 199) dL_agrees_197 rfl rfl ?_
  refine j_dup2 (pc' := 200) dL_agrees_199 rfl rfl rfl ?_
  refine j_ialdv (pc' := 201) hka rfl (by decide) (by decide) (hA _ (by decide)) dL_agrees_200 rfl ?_
  refine j_iload (pc' := 203) dL_agrees_201 rfl rfl ?_
  refine j_ifF_eq (pc' := 206) (tgt := 210) (by decide) dL_agrees_203 (by decide) rfl ?_
  refine j_iconst (pc' := 207) (v := nI 1) dL_agrees_206 rfl rfl ?_
  refine j_goto (tgt := 211) dL_agrees_207 (by decide) ?_
  refine j_iadd (pc' := 212) dL_agrees_211 rfl ?_
  refine j_iast (pc' := 213) hka rfl (by decide) (by decide) dL_agrees_212 rfl ?_
  have hD2 := hD.upA (j := 3) (x := cntF v 4 i + nI 1) hda
  have hA2 := why_up (a := a) (by decide) hw0 hA
  change jx_J E l cL_agrees 13 (some .boolean) RL false rmA 1 5 (fun v' n' kd' R' I' => v' = some (.int (nI 1)) ∧ LZ kd' R' I' d k T B) 1 5 n kd R (jx_up I a 3 (cntF v 4 i + nI 1)) 213 _ _
  generalize jx_up I a 3 (cntF v 4 i + nI 1) = I2 at hD2 hA2 ⊢
  have hD := hD2
  refine j_aload_n (pc' := 214) dL_agrees_213 rfl rfl ?_
  refine j_iload (pc' := 216) dL_agrees_214 rfl rfl ?_
  refine j_iconst (pc' := 217) (v := nI 5) dL_agrees_216 rfl rfl ?_
  refine j_cVi (pc' := 220) m_L_31 (p_point hD hV (by omega) (by omega) (a := v (176 + 56 * i + 5)) ((fPt_w hV.z h16 hi (show 5 < 15 from by omega)))) Kd (by decide) rfl rfl rfl ⟨Nat.le_of_ble_eq_true rfl, Nat.le_of_ble_eq_true rfl⟩ ⟨Nat.le_of_ble_eq_true rfl, Nat.le_of_ble_eq_true rfl⟩ (Nat.le_of_ble_eq_true rfl) dL_agrees_217 rfl (fun x1 J1 hq => ?_)
  obtain ⟨hx, hI⟩ := hq
  rw [hx, hI]
  refine j_iconst (pc' := 221) (v := nI 1) dL_agrees_220 rfl rfl ?_
  refine j_icmpT_ne (tgt := 240) (hwf.2.2.2.1 (by omega)) dL_agrees_221 (by decide) ?_
  refine j_aload_n (pc' := 241) dL_agrees_240 rfl rfl ?_
  refine j_iload (pc' := 243) dL_agrees_241 rfl rfl ?_
  refine j_bipush (pc' := 245) (v := nI 13) dL_agrees_243 rfl rfl ?_
  refine j_cVi (pc' := 248) m_L_31 (p_point hD hV (by omega) (by omega) (a := v (176 + 56 * i + 13)) ((fPt_w hV.z h16 hi (show 13 < 15 from by omega)))) Kd (by decide) rfl rfl rfl ⟨Nat.le_of_ble_eq_true rfl, Nat.le_of_ble_eq_true rfl⟩ ⟨Nat.le_of_ble_eq_true rfl, Nat.le_of_ble_eq_true rfl⟩ (Nat.le_of_ble_eq_true rfl) dL_agrees_245 rfl (fun x1 J1 hq => ?_)
  obtain ⟨hx, hI⟩ := hq
  rw [hx, hI]
  refine jx_cut (B := jx_J E l cL_agrees 13 (some .boolean) RL false rmA 1 5 (fun v' n' kd' R' I' => v' = some (.int (nI 1)) ∧ LZ kd' R' I' d k T B) 1 5 n kd R I2 264 [some (.ref d), some (.int (nI k)), some (.ref a), some (.int ((cntF v 0 i) + (nI 1))), some (.int ((cntF v 6 i) + (nI 0))), some (.int ((cntF v 7 i) + (nI 1))), some (.int ((sm v i) + (v (176 + 56 * i + 14)))), some (.int (nI T)), some (.int (nI i)), some (.int (nI 3)), some (.int (nI 1)), some (.int (nI 0)), some (.int (nI 1))] []) (fun kk => ?_) ?_
  ·
    refine j_if_eq (pc' := 251) (tgt := 264) dL_agrees_248 rfl (by decide) (fun c248 => ?_) (fun c248 => ?_)
    ·
      exact kk
    ·
      refine j_aload_n (pc' := 252) dL_agrees_251 rfl rfl ?_
      refine j_iload (pc' := 254) dL_agrees_252 rfl rfl ?_
      refine j_bipush (pc' := 256) (v := nI 13) dL_agrees_254 rfl rfl ?_
      refine j_cVi (pc' := 259) m_L_31 (p_point hD hV (by omega) (by omega) (a := v (176 + 56 * i + 13)) ((fPt_w hV.z h16 hi (show 13 < 15 from by omega)))) Kd (by decide) rfl rfl rfl ⟨Nat.le_of_ble_eq_true rfl, Nat.le_of_ble_eq_true rfl⟩ ⟨Nat.le_of_ble_eq_true rfl, Nat.le_of_ble_eq_true rfl⟩ (Nat.le_of_ble_eq_true rfl) dL_agrees_256 rfl (fun x1 J1 hq => ?_)
      obtain ⟨hx, hI⟩ := hq
      rw [hx, hI]
      refine j_iload (pc' := 261) dL_agrees_259 rfl rfl ?_
      refine j_icmpF_le (pc' := 264) (tgt := 348) (hgtT c248) dL_agrees_261 (by decide) rfl ?_
      exact kk
  ·
    refine j_iload (pc' := 266) dL_agrees_264 rfl rfl ?_
    refine j_iconst (pc' := 267) (v := nI 1) dL_agrees_266 rfl rfl ?_
    refine j_icmpT_ne (tgt := 281) (by decide) dL_agrees_267 (by decide) ?_
    refine j_iload (pc' := 283) dL_agrees_281 rfl rfl ?_
    refine j_iconst (pc' := 284) (v := nI 2) dL_agrees_283 rfl rfl ?_
    refine j_icmpT_ne (tgt := 306) (by decide) dL_agrees_284 (by decide) ?_
    refine j_iload (pc' := 308) dL_agrees_306 rfl rfl ?_
    refine j_iconst (pc' := 309) (v := nI 3) dL_agrees_308 rfl rfl ?_
    refine j_icmpF_ne (pc' := 312) (tgt := 323) (by decide) dL_agrees_309 (by decide) rfl ?_
    refine j_aload_n (pc' := 313) dL_agrees_312 rfl rfl ?_
    refine j_iload (pc' := 315) dL_agrees_313 rfl rfl ?_
    refine j_bipush (pc' := 317) (v := nI 8) dL_agrees_315 rfl rfl ?_
    refine j_cVi (pc' := 320) m_L_31 (p_point hD hV (by omega) (by omega) (a := v (176 + 56 * i + 8)) ((fPt_w hV.z h16 hi (show 8 < 15 from by omega)))) Kd (by decide) rfl rfl rfl ⟨Nat.le_of_ble_eq_true rfl, Nat.le_of_ble_eq_true rfl⟩ ⟨Nat.le_of_ble_eq_true rfl, Nat.le_of_ble_eq_true rfl⟩ (Nat.le_of_ble_eq_true rfl) dL_agrees_317 rfl (fun x1 J1 hq => ?_)
    obtain ⟨hx, hI⟩ := hq
    rw [hx, hI]
    refine j_ifF_lt (pc' := 323) (tgt := 348) (hwf.2.2.2.2.2.1 rfl) dL_agrees_320 (by decide) rfl ?_
    refine j_iload (pc' := 325) dL_agrees_323 rfl rfl ?_
    refine j_iconst (pc' := 326) (v := nI 4) dL_agrees_325 rfl rfl ?_
    refine j_icmpT_ne (tgt := 350) (by decide) dL_agrees_326 (by decide) ?_
    refine j_aload_n (pc' := 351) dL_agrees_350 rfl rfl ?_
    refine j_iload (pc' := 353) dL_agrees_351 rfl rfl ?_
    refine j_bipush (pc' := 355) (v := nI 11) dL_agrees_353 rfl rfl ?_
    refine j_cVi (pc' := 358) m_L_31 (p_point hD hV (by omega) (by omega) (a := v (176 + 56 * i + 11)) ((fPt_w hV.z h16 hi (show 11 < 15 from by omega)))) Kd (by decide) rfl rfl rfl ⟨Nat.le_of_ble_eq_true rfl, Nat.le_of_ble_eq_true rfl⟩ ⟨Nat.le_of_ble_eq_true rfl, Nat.le_of_ble_eq_true rfl⟩ (Nat.le_of_ble_eq_true rfl) dL_agrees_355 rfl (fun x1 J1 hq => ?_)
    obtain ⟨hx, hI⟩ := hq
    rw [hx, hI]
    refine j_aload_n (pc' := 359) dL_agrees_358 rfl rfl ?_
    refine j_iload (pc' := 361) dL_agrees_359 rfl rfl ?_
    refine j_iload (pc' := 363) dL_agrees_361 rfl rfl ?_
    refine j_ifF_eq (pc' := 366) (tgt := 370) (by decide) dL_agrees_363 (by decide) rfl ?_
    refine j_iconst (pc' := 367) (v := nI 4) dL_agrees_366 rfl rfl ?_
    refine j_goto (tgt := 371) dL_agrees_367 (by decide) ?_
    refine j_cVi (pc' := 374) m_L_31 (p_point hD hV (by omega) (by omega) (a := v (176 + 56 * i + 4)) ((fPt_w hV.z h16 hi (show 4 < 15 from by omega)))) Kd (by decide) rfl rfl rfl ⟨Nat.le_of_ble_eq_true rfl, Nat.le_of_ble_eq_true rfl⟩ ⟨Nat.le_of_ble_eq_true rfl, Nat.le_of_ble_eq_true rfl⟩ (Nat.le_of_ble_eq_true rfl) dL_agrees_371 rfl (fun x1 J1 hq => ?_)
    obtain ⟨hx, hI⟩ := hq
    rw [hx, hI]
    refine jx_cut (B := jx_J E l cL_agrees 13 (some .boolean) RL false rmA 1 5 (fun v' n' kd' R' I' => v' = some (.int (nI 1)) ∧ LZ kd' R' I' d k T B) 1 5 n kd R I2 390 [some (.ref d), some (.int (nI k)), some (.ref a), some (.int ((cntF v 0 i) + (nI 1))), some (.int ((cntF v 6 i) + (nI 0))), some (.int ((cntF v 7 i) + (nI 1))), some (.int ((sm v i) + (v (176 + 56 * i + 14)))), some (.int (nI T)), some (.int (nI i)), some (.int (nI 3)), some (.int (nI 1)), some (.int (nI 0)), some (.int (nI 1))] []) (fun kk => ?_) ?_
    ·
      refine j_icmp_le (pc' := 377) (tgt := 390) dL_agrees_374 rfl (by decide) (fun c374 => ?_) (fun c374 => ?_)
      ·
        exact kk
      ·
        refine j_aload_n (pc' := 378) dL_agrees_377 rfl rfl ?_
        refine j_iload (pc' := 380) dL_agrees_378 rfl rfl ?_
        refine j_bipush (pc' := 382) (v := nI 11) dL_agrees_380 rfl rfl ?_
        refine j_cVi (pc' := 385) m_L_31 (p_point hD hV (by omega) (by omega) (a := nI c) ((fPt_w hV.z h16 hi (show 11 < 15 from by omega)).trans (e11))) Kd (by decide) rfl rfl rfl ⟨Nat.le_of_ble_eq_true rfl, Nat.le_of_ble_eq_true rfl⟩ ⟨Nat.le_of_ble_eq_true rfl, Nat.le_of_ble_eq_true rfl⟩ (Nat.le_of_ble_eq_true rfl) dL_agrees_382 rfl (fun x1 J1 hq => ?_)
        obtain ⟨hx, hI⟩ := hq
        rw [hx, hI]
        refine j_bipush (pc' := 387) (v := nI 20) dL_agrees_385 rfl rfl ?_
        refine j_icmpF_gt (pc' := 390) (tgt := 454) (nI_nlt (by omega) (by omega)) dL_agrees_387 (by decide) rfl ?_
        exact kk
    ·
      refine j_aload_n (pc' := 391) dL_agrees_390 rfl rfl ?_
      refine j_iload (pc' := 393) dL_agrees_391 rfl rfl ?_
      refine j_bipush (pc' := 395) (v := nI 12) dL_agrees_393 rfl rfl ?_
      refine j_cVi (pc' := 398) m_L_31 (p_point hD hV (by omega) (by omega) (a := nI ll) ((fPt_w hV.z h16 hi (show 12 < 15 from by omega)).trans (e12))) Kd (by decide) rfl rfl rfl ⟨Nat.le_of_ble_eq_true rfl, Nat.le_of_ble_eq_true rfl⟩ ⟨Nat.le_of_ble_eq_true rfl, Nat.le_of_ble_eq_true rfl⟩ (Nat.le_of_ble_eq_true rfl) dL_agrees_395 rfl (fun x1 J1 hq => ?_)
      obtain ⟨hx, hI⟩ := hq
      rw [hx, hI]
      refine j_iload (pc' := 400) dL_agrees_398 rfl rfl ?_
      refine j_icmpF_gt (pc' := 403) (tgt := 454) (nI_nlt (by omega) (by omega)) dL_agrees_400 (by decide) rfl ?_
      refine j_aload_n (pc' := 404) dL_agrees_403 rfl rfl ?_
      refine j_iload (pc' := 406) dL_agrees_404 rfl rfl ?_
      refine j_bipush (pc' := 408) (v := nI 14) dL_agrees_406 rfl rfl ?_
      refine j_cVi (pc' := 411) m_L_31 (p_point hD hV (by omega) (by omega) (a := v (176 + 56 * i + 14)) ((fPt_w hV.z h16 hi (show 14 < 15 from by omega)))) Kd (by decide) rfl rfl rfl ⟨Nat.le_of_ble_eq_true rfl, Nat.le_of_ble_eq_true rfl⟩ ⟨Nat.le_of_ble_eq_true rfl, Nat.le_of_ble_eq_true rfl⟩ (Nat.le_of_ble_eq_true rfl) dL_agrees_408 rfl (fun x1 J1 hq => ?_)
      obtain ⟨hx, hI⟩ := hq
      rw [hx, hI]
      refine jx_cut (B := jx_J E l cL_agrees 13 (some .boolean) RL false rmA 1 5 (fun v' n' kd' R' I' => v' = some (.int (nI 1)) ∧ LZ kd' R' I' d k T B) 1 5 n kd R I2 438 [some (.ref d), some (.int (nI k)), some (.ref a), some (.int ((cntF v 0 i) + (nI 1))), some (.int ((cntF v 6 i) + (nI 0))), some (.int ((cntF v 7 i) + (nI 1))), some (.int ((sm v i) + (v (176 + 56 * i + 14)))), some (.int (nI T)), some (.int (nI i)), some (.int (nI 3)), some (.int (nI 1)), some (.int (nI 0)), some (.int (nI 1))] []) (fun kk => ?_) ?_
      ·
        refine j_if_ne (pc' := 414) (tgt := 418) dL_agrees_411 rfl (by decide) (fun c411 => ?_) (fun c411 => ?_)
        ·
          refine j_iconst (pc' := 419) (v := nI 0) dL_agrees_418 rfl rfl ?_
          refine j_aload_n (pc' := 420) dL_agrees_419 rfl rfl ?_
          refine j_iload (pc' := 422) dL_agrees_420 rfl rfl ?_
          refine j_bipush (pc' := 424) (v := nI 12) dL_agrees_422 rfl rfl ?_
          refine j_cVi (pc' := 427) m_L_31 (p_point hD hV (by omega) (by omega) (a := v (176 + 56 * i + 12)) ((fPt_w hV.z h16 hi (show 12 < 15 from by omega)))) Kd (by decide) rfl rfl rfl ⟨Nat.le_of_ble_eq_true rfl, Nat.le_of_ble_eq_true rfl⟩ ⟨Nat.le_of_ble_eq_true rfl, Nat.le_of_ble_eq_true rfl⟩ (Nat.le_of_ble_eq_true rfl) dL_agrees_424 rfl (fun x1 J1 hq => ?_)
          obtain ⟨hx, hI⟩ := hq
          rw [hx, hI]
          refine j_ifT_ne (tgt := 434) (fun z => c411 (h14.mpr z)) dL_agrees_427 (by decide) ?_
          refine j_iconst (pc' := 435) (v := nI 0) dL_agrees_434 rfl rfl ?_
          refine j_icmpF_ne (pc' := 438) (tgt := 454) (by decide) dL_agrees_435 (by decide) rfl ?_
          exact kk
        ·
          refine j_iconst (pc' := 415) (v := nI 1) dL_agrees_414 rfl rfl ?_
          refine j_goto (tgt := 419) dL_agrees_415 (by decide) ?_
          refine j_aload_n (pc' := 420) dL_agrees_419 rfl rfl ?_
          refine j_iload (pc' := 422) dL_agrees_420 rfl rfl ?_
          refine j_bipush (pc' := 424) (v := nI 12) dL_agrees_422 rfl rfl ?_
          refine j_cVi (pc' := 427) m_L_31 (p_point hD hV (by omega) (by omega) (a := v (176 + 56 * i + 12)) ((fPt_w hV.z h16 hi (show 12 < 15 from by omega)))) Kd (by decide) rfl rfl rfl ⟨Nat.le_of_ble_eq_true rfl, Nat.le_of_ble_eq_true rfl⟩ ⟨Nat.le_of_ble_eq_true rfl, Nat.le_of_ble_eq_true rfl⟩ (Nat.le_of_ble_eq_true rfl) dL_agrees_424 rfl (fun x1 J1 hq => ?_)
          obtain ⟨hx, hI⟩ := hq
          rw [hx, hI]
          refine j_ifF_ne (pc' := 430) (tgt := 434) (h14.mp c411) dL_agrees_427 (by decide) rfl ?_
          refine j_iconst (pc' := 431) (v := nI 1) dL_agrees_430 rfl rfl ?_
          refine j_goto (tgt := 435) dL_agrees_431 (by decide) ?_
          refine j_icmpF_ne (pc' := 438) (tgt := 454) (by decide) dL_agrees_435 (by decide) rfl ?_
          exact kk
      ·
        refine j_aload_n (pc' := 439) dL_agrees_438 rfl rfl ?_
        refine j_iload (pc' := 441) dL_agrees_439 rfl rfl ?_
        refine j_bipush (pc' := 443) (v := nI 14) dL_agrees_441 rfl rfl ?_
        refine j_cVi (pc' := 446) m_L_31 (p_point hD hV (by omega) (by omega) (a := v (176 + 56 * i + 14)) ((fPt_w hV.z h16 hi (show 14 < 15 from by omega)))) Kd (by decide) rfl rfl rfl ⟨Nat.le_of_ble_eq_true rfl, Nat.le_of_ble_eq_true rfl⟩ ⟨Nat.le_of_ble_eq_true rfl, Nat.le_of_ble_eq_true rfl⟩ (Nat.le_of_ble_eq_true rfl) dL_agrees_443 rfl (fun x1 J1 hq => ?_)
        obtain ⟨hx, hI⟩ := hq
        rw [hx, hI]
        refine jx_cut (B := jx_J E l cL_agrees 13 (some .boolean) RL false rmA 1 5 (fun v' n' kd' R' I' => v' = some (.int (nI 1)) ∧ LZ kd' R' I' d k T B) 1 5 n kd R I2 456 [some (.ref d), some (.int (nI k)), some (.ref a), some (.int ((cntF v 0 i) + (nI 1))), some (.int ((cntF v 6 i) + (nI 0))), some (.int ((cntF v 7 i) + (nI 1))), some (.int ((sm v i) + (v (176 + 56 * i + 14)))), some (.int (nI T)), some (.int (nI i)), some (.int (nI 3)), some (.int (nI 1)), some (.int (nI 0)), some (.int (nI 1))] []) (fun kk => ?_) ?_
        ·
          refine j_if_ne (pc' := 449) (tgt := 456) dL_agrees_446 rfl (by decide) (fun c446 => ?_) (fun c446 => ?_)
          ·
            exact kk
          ·
            exact absurd (hal c446) (by rw [h9, h10]; decide)
        ·
          refine j_iincN (pc' := 459) (lv' := [_, _, _, _, _, _, _, _, _, _, _, _, _]) dL_agrees_456 rfl rfl (by decide) rfl ?_
          refine j_goto (tgt := 25) dL_agrees_459 (by decide) ?_
          have e0 : cntF v 0 (i + 1) = cntF v 0 i + nI 1 := cnt_t (by rw [cC0]; exact hst)
          have e6 : cntF v 6 (i + 1) = cntF v 6 i + nI 0 := cnt_f (by rw [cC6]; exact decide_eq_false (fun z => z hsh))
          have e7 : cntF v 7 (i + 1) = cntF v 7 i + nI 1 := cnt_t (by rw [cC7]; exact decide_eq_true h10)
          refine j_eqLA e0 e6 e7 ?_
          exact ih (i + 1) I2 _ _ _ _ (by omega) (by omega) hD hA2
set_option maxRecDepth 100000 in
set_option maxHeartbeats 4000000 in
theorem ag_10_40 {E : jx_E} {l : Launch} {n : Nat} {kd : jx_K} {R : jx_R} {d : Nat} {v p : Nat → Int32} {q B k T S N : Nat} {i a : Nat} {I : jx_I} {y9 y10 y11 y12 : Option Value} (hV : VI v k T S N) (hN : N ≤ B) (hB : B + 100000 < 2147483000) (hP : PI v k T) (hi : i < k) (hka : kd a = (7, 5)) (hda : d + 344 ≤ a) (ih : ∀ (j : Nat) (I : jx_I) (y9 y10 y11 y12 : Option Value), i < j → j ≤ k → DK kd R I d v p q B → (∀ w, w < 5 → I a w = cntF v (w + 1) j) → jx_J E l cL_agrees 13 (some .boolean) RL false rmA 1 5 (fun v' n' kd' R' I' => v' = some (.int (nI 1)) ∧ LZ kd' R' I' d k T B) 1 5 n kd R I 25 [some (.ref d), some (.int (nI k)), some (.ref a), some (.int (cntF v 0 j)), some (.int (cntF v 6 j)), some (.int (cntF v 7 j)), some (.int (sm v j)), some (.int (nI T)), some (.int (nI j)), y9, y10, y11, y12] []) (hD : DK kd R I d v p q B) (hA : ∀ w, w < 5 → I a w = cntF v (w + 1) i) (h9 : v (176 + 56 * i + 9) = nI 1) (h10 : v (176 + 56 * i + 10) = nI 0) (hst : sStand v i = true) (hwf : WF v i 4) (hsh : v (176 + 56 * i + 13) ≤ 0) : jx_J E l cL_agrees 13 (some .boolean) RL false rmA 1 5 (fun v' n' kd' R' I' => v' = some (.int (nI 1)) ∧ LZ kd' R' I' d k T B) 1 5 n kd R I 25 [some (.ref d), some (.int (nI k)), some (.ref a), some (.int (cntF v 0 i)), some (.int (cntF v 6 i)), some (.int (cntF v 7 i)), some (.int (sm v i)), some (.int (nI T)), some (.int (nI i)), y9, y10, y11, y12] [] := by
  have h16 := hV.k16
  have Kd := hD.k5
  have hT := hV.tl
  obtain ⟨hp1, hp2⟩ := hP.1 i hi
  obtain ⟨⟨c, hc, e11⟩, aa, ll, haa, hll, e14, e12, hal0, hz⟩ := hp1
  have h14 : v (176 + 56 * i + 14) = 0 ↔ v (176 + 56 * i + 12) = 0 := by
    rw [e14, e12]
    have x1 := nI_eq (show aa < 2 ^ 31 from by omega) (show 0 < 2 ^ 31 from by omega)
    have x2 := nI_eq (show ll < 2 ^ 31 from by omega) (show 0 < 2 ^ 31 from by omega)
    exact x1.trans (hal0.trans x2.symm)
  have hal : v (176 + 56 * i + 14) = 0 → v (176 + 56 * i + 9) = nI 0 ∧ v (176 + 56 * i + 10) = nI 1 := fun z => hz ((nI_eq (show aa < 2 ^ 31 from by omega) (show 0 < 2 ^ 31 from by omega)).mp (e14.symm.trans z))
  have hgtT : ¬ v (176 + 56 * i + 13) = 0 → ¬ v (176 + 56 * i + 13) ≤ nI T := by
    intro z
    rcases hp2.2 with e | ⟨u, hu, hu2, e⟩
    · exact absurd e z
    · rw [e]; exact nI_ge hu (by omega)
  have hw0 := hwf.1
  have h35 : ¬ v (176 + 56 * i + 5) ≤ nI 2 → nI 3 ≤ v (176 + 56 * i + 5) := by
    intro z
    rw [Int32.le_iff_toInt_le] at z ⊢
    have x2 : (nI 2).toInt = 2 := rfl
    have x3 : (nI 3).toInt = 3 := rfl
    omega
  refine j_iload (pc' := 27) dL_agrees_25 rfl rfl ?_
  refine j_iload_n (pc' := 28) dL_agrees_27 rfl rfl ?_
  refine j_icmpF_ge (pc' := 31) (tgt := 462) (nI_ge hi (by omega)) dL_agrees_28 (by decide) rfl ?_
  refine j_aload_n (pc' := 32) dL_agrees_31 rfl rfl ?_
  refine j_iload (pc' := 34) dL_agrees_32 rfl rfl ?_
  refine j_bipush (pc' := 36) (v := nI 15) dL_agrees_34 rfl rfl ?_
  refine j_cVi (pc' := 39) m_L_31 (p_point hD hV (by omega) (by omega) (a := nI 4) ((fPt_15 hV.z h16 hi).trans hw0)) Kd (by decide) rfl rfl rfl ⟨Nat.le_of_ble_eq_true rfl, Nat.le_of_ble_eq_true rfl⟩ ⟨Nat.le_of_ble_eq_true rfl, Nat.le_of_ble_eq_true rfl⟩ (Nat.le_of_ble_eq_true rfl) dL_agrees_36 rfl (fun x1 J1 hq => ?_)
  obtain ⟨hx, hI⟩ := hq
  rw [hx, hI]
  refine j_istore (pc' := 41) (lv' := [_, _, _, _, _, _, _, _, _, _, _, _, _]) dL_agrees_39 rfl (by decide) rfl ?_
  refine j_aload_n (pc' := 42) dL_agrees_41 rfl rfl ?_
  refine j_iload (pc' := 44) dL_agrees_42 rfl rfl ?_
  refine j_bipush (pc' := 46) (v := nI 9) dL_agrees_44 rfl rfl ?_
  refine j_cVi (pc' := 49) m_L_31 (p_point hD hV (by omega) (by omega) (a := nI 1) ((fPt_w hV.z h16 hi (show 9 < 15 from by omega)).trans (h9))) Kd (by decide) rfl rfl rfl ⟨Nat.le_of_ble_eq_true rfl, Nat.le_of_ble_eq_true rfl⟩ ⟨Nat.le_of_ble_eq_true rfl, Nat.le_of_ble_eq_true rfl⟩ (Nat.le_of_ble_eq_true rfl) dL_agrees_46 rfl (fun x1 J1 hq => ?_)
  obtain ⟨hx, hI⟩ := hq
  rw [hx, hI]
  refine j_iconst (pc' := 50) (v := nI 1) dL_agrees_49 rfl rfl ?_
  refine j_icmpF_ne (pc' := 53) (tgt := 57) (by decide) dL_agrees_50 (by decide) rfl ?_
  refine j_iconst (pc' := 54) (v := nI 1) dL_agrees_53 rfl rfl ?_
  refine j_goto (tgt := 58) dL_agrees_54 (by decide) ?_
  refine j_istore (pc' := 60) (lv' := [_, _, _, _, _, _, _, _, _, _, _, _, _]) dL_agrees_58 rfl (by decide) rfl ?_
  refine j_aload_n (pc' := 61) dL_agrees_60 rfl rfl ?_
  refine j_iload (pc' := 63) dL_agrees_61 rfl rfl ?_
  refine j_bipush (pc' := 65) (v := nI 10) dL_agrees_63 rfl rfl ?_
  refine j_cVi (pc' := 68) m_L_31 (p_point hD hV (by omega) (by omega) (a := nI 0) ((fPt_w hV.z h16 hi (show 10 < 15 from by omega)).trans (h10))) Kd (by decide) rfl rfl rfl ⟨Nat.le_of_ble_eq_true rfl, Nat.le_of_ble_eq_true rfl⟩ ⟨Nat.le_of_ble_eq_true rfl, Nat.le_of_ble_eq_true rfl⟩ (Nat.le_of_ble_eq_true rfl) dL_agrees_65 rfl (fun x1 J1 hq => ?_)
  obtain ⟨hx, hI⟩ := hq
  rw [hx, hI]
  refine j_iconst (pc' := 69) (v := nI 1) dL_agrees_68 rfl rfl ?_
  refine j_icmpT_ne (tgt := 76) (by decide) dL_agrees_69 (by decide) ?_
  refine j_iconst (pc' := 77) (v := nI 0) dL_agrees_76 rfl rfl ?_
  refine j_istore (pc' := 79) (lv' := [_, _, _, _, _, _, _, _, _, _, _, _, _]) dL_agrees_77 rfl (by decide) rfl ?_
  refine j_iload (pc' := 81) dL_agrees_79 rfl rfl ?_
  refine j_ifT_ne (tgt := 89) (by decide) dL_agrees_81 (by decide) ?_
  refine j_iconst (pc' := 90) (v := nI 1) dL_agrees_89 rfl rfl ?_
  refine j_goto (tgt := 94) dL_agrees_90 (by decide) ?_
  refine j_istore (pc' := 96) (lv' := [_, _, _, _, _, _, _, _, _, _, _, _, _]) dL_agrees_94 rfl (by decide) rfl ?_
  refine j_iload_n (pc' := 97) dL_agrees_96 rfl rfl ?_
  refine j_iload (pc' := 99) dL_agrees_97 rfl rfl ?_
  refine j_ifF_eq (pc' := 102) (tgt := 106) (by decide) dL_agrees_99 (by decide) rfl ?_
  refine j_iconst (pc' := 103) (v := nI 1) dL_agrees_102 rfl rfl ?_
  refine j_goto (tgt := 107) dL_agrees_103 (by decide) ?_
  refine j_iadd (pc' := 108) dL_agrees_107 rfl ?_
  refine j_istore_n (pc' := 109) (lv' := [_, _, _, _, _, _, _, _, _, _, _, _, _]) dL_agrees_108 rfl (by decide) rfl ?_
  refine j_iload (pc' := 111) dL_agrees_109 rfl rfl ?_
  refine j_aload_n (pc' := 112) dL_agrees_111 rfl rfl ?_
  refine j_iload (pc' := 114) dL_agrees_112 rfl rfl ?_
  refine j_bipush (pc' := 116) (v := nI 13) dL_agrees_114 rfl rfl ?_
  refine j_cVi (pc' := 119) m_L_31 (p_point hD hV (by omega) (by omega) (a := v (176 + 56 * i + 13)) ((fPt_w hV.z h16 hi (show 13 < 15 from by omega)))) Kd (by decide) rfl rfl rfl ⟨Nat.le_of_ble_eq_true rfl, Nat.le_of_ble_eq_true rfl⟩ ⟨Nat.le_of_ble_eq_true rfl, Nat.le_of_ble_eq_true rfl⟩ (Nat.le_of_ble_eq_true rfl) dL_agrees_116 rfl (fun x1 J1 hq => ?_)
  obtain ⟨hx, hI⟩ := hq
  rw [hx, hI]
  refine j_ifT_le (tgt := 126) (hsh) dL_agrees_119 (by decide) ?_
  refine j_iconst (pc' := 127) (v := nI 0) dL_agrees_126 rfl rfl ?_
  refine j_iadd (pc' := 128) dL_agrees_127 rfl ?_
  refine j_istore (pc' := 130) (lv' := [_, _, _, _, _, _, _, _, _, _, _, _, _]) dL_agrees_128 rfl (by decide) rfl ?_
  refine j_iload (pc' := 132) dL_agrees_130 rfl rfl ?_
  refine j_iload (pc' := 134) dL_agrees_132 rfl rfl ?_
  refine j_ifT_eq (tgt := 141) (by decide) dL_agrees_134 (by decide) ?_
  refine j_iconst (pc' := 142) (v := nI 1) dL_agrees_141 rfl rfl ?_
  refine j_iadd (pc' := 143) dL_agrees_142 rfl ?_
  refine j_istore (pc' := 145) (lv' := [_, _, _, _, _, _, _, _, _, _, _, _, _]) dL_agrees_143 rfl (by decide) rfl ?_
  refine j_iload (pc' := 147) dL_agrees_145 rfl rfl ?_
  refine j_aload_n (pc' := 148) dL_agrees_147 rfl rfl ?_
  refine j_iload (pc' := 150) dL_agrees_148 rfl rfl ?_
  refine j_bipush (pc' := 152) (v := nI 14) dL_agrees_150 rfl rfl ?_
  refine j_cVi (pc' := 155) m_L_31 (p_point hD hV (by omega) (by omega) (a := v (176 + 56 * i + 14)) ((fPt_w hV.z h16 hi (show 14 < 15 from by omega)))) Kd (by decide) rfl rfl rfl ⟨Nat.le_of_ble_eq_true rfl, Nat.le_of_ble_eq_true rfl⟩ ⟨Nat.le_of_ble_eq_true rfl, Nat.le_of_ble_eq_true rfl⟩ (Nat.le_of_ble_eq_true rfl) dL_agrees_152 rfl (fun x1 J1 hq => ?_)
  obtain ⟨hx, hI⟩ := hq
  rw [hx, hI]
  refine j_iadd (pc' := 156) dL_agrees_155 rfl ?_
  refine j_istore (pc' := 158) (lv' := [_, _, _, _, _, _, _, _, _, _, _, _, _]) dL_agrees_156 rfl (by decide) rfl ?_
  refine j_iload (pc' := 160) dL_agrees_158 rfl rfl ?_
  refine j_ifF_eq (pc' := 163) (tgt := 177) (by decide) dL_agrees_160 (by decide) rfl ?_
  refine j_iload (pc' := 165) dL_agrees_163 rfl rfl ?_
  refine j_ifF_lt (pc' := 168) (tgt := 185) (by decide) dL_agrees_165 (by decide) rfl ?_
  refine j_iload (pc' := 170) dL_agrees_168 rfl rfl ?_
  refine j_iconst (pc' := 171) (v := nI 4) dL_agrees_170 rfl rfl ?_
  refine j_icmpT_le (tgt := 187) (by decide) dL_agrees_171 (by decide) ?_
  refine j_aload_n (pc' := 188) dL_agrees_187 rfl rfl ?_
  refine j_iload (pc' := 190) dL_agrees_188 rfl rfl ?_
  refine j_ifT_ge (tgt := 197) (by decide) dL_agrees_190 (by decide) ?_
  refine j_iload (pc' := 199) dL_agrees_197 rfl rfl ?_
  refine j_dup2 (pc' := 200) dL_agrees_199 rfl rfl rfl ?_
  refine j_ialdv (pc' := 201) hka rfl (by decide) (by decide) (hA _ (by decide)) dL_agrees_200 rfl ?_
  refine j_iload (pc' := 203) dL_agrees_201 rfl rfl ?_
  refine j_ifF_eq (pc' := 206) (tgt := 210) (by decide) dL_agrees_203 (by decide) rfl ?_
  refine j_iconst (pc' := 207) (v := nI 1) dL_agrees_206 rfl rfl ?_
  refine j_goto (tgt := 211) dL_agrees_207 (by decide) ?_
  refine j_iadd (pc' := 212) dL_agrees_211 rfl ?_
  refine j_iast (pc' := 213) hka rfl (by decide) (by decide) dL_agrees_212 rfl ?_
  have hD2 := hD.upA (j := 4) (x := cntF v 5 i + nI 1) hda
  have hA2 := why_up (a := a) (by decide) hw0 hA
  change jx_J E l cL_agrees 13 (some .boolean) RL false rmA 1 5 (fun v' n' kd' R' I' => v' = some (.int (nI 1)) ∧ LZ kd' R' I' d k T B) 1 5 n kd R (jx_up I a 4 (cntF v 5 i + nI 1)) 213 _ _
  generalize jx_up I a 4 (cntF v 5 i + nI 1) = I2 at hD2 hA2 ⊢
  have hD := hD2
  refine j_aload_n (pc' := 214) dL_agrees_213 rfl rfl ?_
  refine j_iload (pc' := 216) dL_agrees_214 rfl rfl ?_
  refine j_iconst (pc' := 217) (v := nI 5) dL_agrees_216 rfl rfl ?_
  refine j_cVi (pc' := 220) m_L_31 (p_point hD hV (by omega) (by omega) (a := v (176 + 56 * i + 5)) ((fPt_w hV.z h16 hi (show 5 < 15 from by omega)))) Kd (by decide) rfl rfl rfl ⟨Nat.le_of_ble_eq_true rfl, Nat.le_of_ble_eq_true rfl⟩ ⟨Nat.le_of_ble_eq_true rfl, Nat.le_of_ble_eq_true rfl⟩ (Nat.le_of_ble_eq_true rfl) dL_agrees_217 rfl (fun x1 J1 hq => ?_)
  obtain ⟨hx, hI⟩ := hq
  rw [hx, hI]
  refine j_iconst (pc' := 221) (v := nI 1) dL_agrees_220 rfl rfl ?_
  refine j_icmpT_ne (tgt := 240) (hwf.2.2.2.1 (by omega)) dL_agrees_221 (by decide) ?_
  refine j_aload_n (pc' := 241) dL_agrees_240 rfl rfl ?_
  refine j_iload (pc' := 243) dL_agrees_241 rfl rfl ?_
  refine j_bipush (pc' := 245) (v := nI 13) dL_agrees_243 rfl rfl ?_
  refine j_cVi (pc' := 248) m_L_31 (p_point hD hV (by omega) (by omega) (a := v (176 + 56 * i + 13)) ((fPt_w hV.z h16 hi (show 13 < 15 from by omega)))) Kd (by decide) rfl rfl rfl ⟨Nat.le_of_ble_eq_true rfl, Nat.le_of_ble_eq_true rfl⟩ ⟨Nat.le_of_ble_eq_true rfl, Nat.le_of_ble_eq_true rfl⟩ (Nat.le_of_ble_eq_true rfl) dL_agrees_245 rfl (fun x1 J1 hq => ?_)
  obtain ⟨hx, hI⟩ := hq
  rw [hx, hI]
  refine jx_cut (B := jx_J E l cL_agrees 13 (some .boolean) RL false rmA 1 5 (fun v' n' kd' R' I' => v' = some (.int (nI 1)) ∧ LZ kd' R' I' d k T B) 1 5 n kd R I2 264 [some (.ref d), some (.int (nI k)), some (.ref a), some (.int ((cntF v 0 i) + (nI 1))), some (.int ((cntF v 6 i) + (nI 0))), some (.int ((cntF v 7 i) + (nI 1))), some (.int ((sm v i) + (v (176 + 56 * i + 14)))), some (.int (nI T)), some (.int (nI i)), some (.int (nI 4)), some (.int (nI 1)), some (.int (nI 0)), some (.int (nI 1))] []) (fun kk => ?_) ?_
  ·
    refine j_if_eq (pc' := 251) (tgt := 264) dL_agrees_248 rfl (by decide) (fun c248 => ?_) (fun c248 => ?_)
    ·
      exact kk
    ·
      refine j_aload_n (pc' := 252) dL_agrees_251 rfl rfl ?_
      refine j_iload (pc' := 254) dL_agrees_252 rfl rfl ?_
      refine j_bipush (pc' := 256) (v := nI 13) dL_agrees_254 rfl rfl ?_
      refine j_cVi (pc' := 259) m_L_31 (p_point hD hV (by omega) (by omega) (a := v (176 + 56 * i + 13)) ((fPt_w hV.z h16 hi (show 13 < 15 from by omega)))) Kd (by decide) rfl rfl rfl ⟨Nat.le_of_ble_eq_true rfl, Nat.le_of_ble_eq_true rfl⟩ ⟨Nat.le_of_ble_eq_true rfl, Nat.le_of_ble_eq_true rfl⟩ (Nat.le_of_ble_eq_true rfl) dL_agrees_256 rfl (fun x1 J1 hq => ?_)
      obtain ⟨hx, hI⟩ := hq
      rw [hx, hI]
      refine j_iload (pc' := 261) dL_agrees_259 rfl rfl ?_
      refine j_icmpF_le (pc' := 264) (tgt := 348) (hgtT c248) dL_agrees_261 (by decide) rfl ?_
      exact kk
  ·
    refine j_iload (pc' := 266) dL_agrees_264 rfl rfl ?_
    refine j_iconst (pc' := 267) (v := nI 1) dL_agrees_266 rfl rfl ?_
    refine j_icmpT_ne (tgt := 281) (by decide) dL_agrees_267 (by decide) ?_
    refine j_iload (pc' := 283) dL_agrees_281 rfl rfl ?_
    refine j_iconst (pc' := 284) (v := nI 2) dL_agrees_283 rfl rfl ?_
    refine j_icmpT_ne (tgt := 306) (by decide) dL_agrees_284 (by decide) ?_
    refine j_iload (pc' := 308) dL_agrees_306 rfl rfl ?_
    refine j_iconst (pc' := 309) (v := nI 3) dL_agrees_308 rfl rfl ?_
    refine j_icmpT_ne (tgt := 323) (by decide) dL_agrees_309 (by decide) ?_
    refine j_iload (pc' := 325) dL_agrees_323 rfl rfl ?_
    refine j_iconst (pc' := 326) (v := nI 4) dL_agrees_325 rfl rfl ?_
    refine j_icmpF_ne (pc' := 329) (tgt := 350) (by decide) dL_agrees_326 (by decide) rfl ?_
    refine j_aload_n (pc' := 330) dL_agrees_329 rfl rfl ?_
    refine j_iconst (pc' := 331) (v := nI 2) dL_agrees_330 rfl rfl ?_
    refine j_cVi (pc' := 334) m_L_44 (p_plant hD hV (by omega) (by omega) (a := v 3) (fPl_2)) Kd (by decide) rfl rfl rfl ⟨Nat.le_of_ble_eq_true rfl, Nat.le_of_ble_eq_true rfl⟩ ⟨Nat.le_of_ble_eq_true rfl, Nat.le_of_ble_eq_true rfl⟩ (Nat.le_of_ble_eq_true rfl) dL_agrees_331 rfl (fun x1 J1 hq => ?_)
    obtain ⟨hx, hI⟩ := hq
    rw [hx, hI]
    refine j_ifF_eq (pc' := 337) (tgt := 348) (by rw [(hwf.2.2.2.2.2.2 rfl).1]; decide) dL_agrees_334 (by decide) rfl ?_
    refine j_aload_n (pc' := 338) dL_agrees_337 rfl rfl ?_
    refine j_iload (pc' := 340) dL_agrees_338 rfl rfl ?_
    refine j_iconst (pc' := 341) (v := nI 5) dL_agrees_340 rfl rfl ?_
    refine j_cVi (pc' := 344) m_L_31 (p_point hD hV (by omega) (by omega) (a := v (176 + 56 * i + 5)) ((fPt_w hV.z h16 hi (show 5 < 15 from by omega)))) Kd (by decide) rfl rfl rfl ⟨Nat.le_of_ble_eq_true rfl, Nat.le_of_ble_eq_true rfl⟩ ⟨Nat.le_of_ble_eq_true rfl, Nat.le_of_ble_eq_true rfl⟩ (Nat.le_of_ble_eq_true rfl) dL_agrees_341 rfl (fun x1 J1 hq => ?_)
    obtain ⟨hx, hI⟩ := hq
    rw [hx, hI]
    refine j_iconst (pc' := 345) (v := nI 3) dL_agrees_344 rfl rfl ?_
    refine j_icmpT_ge (tgt := 350) (h35 (hwf.2.2.2.2.2.2 rfl).2) dL_agrees_345 (by decide) ?_
    refine j_aload_n (pc' := 351) dL_agrees_350 rfl rfl ?_
    refine j_iload (pc' := 353) dL_agrees_351 rfl rfl ?_
    refine j_bipush (pc' := 355) (v := nI 11) dL_agrees_353 rfl rfl ?_
    refine j_cVi (pc' := 358) m_L_31 (p_point hD hV (by omega) (by omega) (a := v (176 + 56 * i + 11)) ((fPt_w hV.z h16 hi (show 11 < 15 from by omega)))) Kd (by decide) rfl rfl rfl ⟨Nat.le_of_ble_eq_true rfl, Nat.le_of_ble_eq_true rfl⟩ ⟨Nat.le_of_ble_eq_true rfl, Nat.le_of_ble_eq_true rfl⟩ (Nat.le_of_ble_eq_true rfl) dL_agrees_355 rfl (fun x1 J1 hq => ?_)
    obtain ⟨hx, hI⟩ := hq
    rw [hx, hI]
    refine j_aload_n (pc' := 359) dL_agrees_358 rfl rfl ?_
    refine j_iload (pc' := 361) dL_agrees_359 rfl rfl ?_
    refine j_iload (pc' := 363) dL_agrees_361 rfl rfl ?_
    refine j_ifF_eq (pc' := 366) (tgt := 370) (by decide) dL_agrees_363 (by decide) rfl ?_
    refine j_iconst (pc' := 367) (v := nI 4) dL_agrees_366 rfl rfl ?_
    refine j_goto (tgt := 371) dL_agrees_367 (by decide) ?_
    refine j_cVi (pc' := 374) m_L_31 (p_point hD hV (by omega) (by omega) (a := v (176 + 56 * i + 4)) ((fPt_w hV.z h16 hi (show 4 < 15 from by omega)))) Kd (by decide) rfl rfl rfl ⟨Nat.le_of_ble_eq_true rfl, Nat.le_of_ble_eq_true rfl⟩ ⟨Nat.le_of_ble_eq_true rfl, Nat.le_of_ble_eq_true rfl⟩ (Nat.le_of_ble_eq_true rfl) dL_agrees_371 rfl (fun x1 J1 hq => ?_)
    obtain ⟨hx, hI⟩ := hq
    rw [hx, hI]
    refine jx_cut (B := jx_J E l cL_agrees 13 (some .boolean) RL false rmA 1 5 (fun v' n' kd' R' I' => v' = some (.int (nI 1)) ∧ LZ kd' R' I' d k T B) 1 5 n kd R I2 390 [some (.ref d), some (.int (nI k)), some (.ref a), some (.int ((cntF v 0 i) + (nI 1))), some (.int ((cntF v 6 i) + (nI 0))), some (.int ((cntF v 7 i) + (nI 1))), some (.int ((sm v i) + (v (176 + 56 * i + 14)))), some (.int (nI T)), some (.int (nI i)), some (.int (nI 4)), some (.int (nI 1)), some (.int (nI 0)), some (.int (nI 1))] []) (fun kk => ?_) ?_
    ·
      refine j_icmp_le (pc' := 377) (tgt := 390) dL_agrees_374 rfl (by decide) (fun c374 => ?_) (fun c374 => ?_)
      ·
        exact kk
      ·
        refine j_aload_n (pc' := 378) dL_agrees_377 rfl rfl ?_
        refine j_iload (pc' := 380) dL_agrees_378 rfl rfl ?_
        refine j_bipush (pc' := 382) (v := nI 11) dL_agrees_380 rfl rfl ?_
        refine j_cVi (pc' := 385) m_L_31 (p_point hD hV (by omega) (by omega) (a := nI c) ((fPt_w hV.z h16 hi (show 11 < 15 from by omega)).trans (e11))) Kd (by decide) rfl rfl rfl ⟨Nat.le_of_ble_eq_true rfl, Nat.le_of_ble_eq_true rfl⟩ ⟨Nat.le_of_ble_eq_true rfl, Nat.le_of_ble_eq_true rfl⟩ (Nat.le_of_ble_eq_true rfl) dL_agrees_382 rfl (fun x1 J1 hq => ?_)
        obtain ⟨hx, hI⟩ := hq
        rw [hx, hI]
        refine j_bipush (pc' := 387) (v := nI 20) dL_agrees_385 rfl rfl ?_
        refine j_icmpF_gt (pc' := 390) (tgt := 454) (nI_nlt (by omega) (by omega)) dL_agrees_387 (by decide) rfl ?_
        exact kk
    ·
      refine j_aload_n (pc' := 391) dL_agrees_390 rfl rfl ?_
      refine j_iload (pc' := 393) dL_agrees_391 rfl rfl ?_
      refine j_bipush (pc' := 395) (v := nI 12) dL_agrees_393 rfl rfl ?_
      refine j_cVi (pc' := 398) m_L_31 (p_point hD hV (by omega) (by omega) (a := nI ll) ((fPt_w hV.z h16 hi (show 12 < 15 from by omega)).trans (e12))) Kd (by decide) rfl rfl rfl ⟨Nat.le_of_ble_eq_true rfl, Nat.le_of_ble_eq_true rfl⟩ ⟨Nat.le_of_ble_eq_true rfl, Nat.le_of_ble_eq_true rfl⟩ (Nat.le_of_ble_eq_true rfl) dL_agrees_395 rfl (fun x1 J1 hq => ?_)
      obtain ⟨hx, hI⟩ := hq
      rw [hx, hI]
      refine j_iload (pc' := 400) dL_agrees_398 rfl rfl ?_
      refine j_icmpF_gt (pc' := 403) (tgt := 454) (nI_nlt (by omega) (by omega)) dL_agrees_400 (by decide) rfl ?_
      refine j_aload_n (pc' := 404) dL_agrees_403 rfl rfl ?_
      refine j_iload (pc' := 406) dL_agrees_404 rfl rfl ?_
      refine j_bipush (pc' := 408) (v := nI 14) dL_agrees_406 rfl rfl ?_
      refine j_cVi (pc' := 411) m_L_31 (p_point hD hV (by omega) (by omega) (a := v (176 + 56 * i + 14)) ((fPt_w hV.z h16 hi (show 14 < 15 from by omega)))) Kd (by decide) rfl rfl rfl ⟨Nat.le_of_ble_eq_true rfl, Nat.le_of_ble_eq_true rfl⟩ ⟨Nat.le_of_ble_eq_true rfl, Nat.le_of_ble_eq_true rfl⟩ (Nat.le_of_ble_eq_true rfl) dL_agrees_408 rfl (fun x1 J1 hq => ?_)
      obtain ⟨hx, hI⟩ := hq
      rw [hx, hI]
      refine jx_cut (B := jx_J E l cL_agrees 13 (some .boolean) RL false rmA 1 5 (fun v' n' kd' R' I' => v' = some (.int (nI 1)) ∧ LZ kd' R' I' d k T B) 1 5 n kd R I2 438 [some (.ref d), some (.int (nI k)), some (.ref a), some (.int ((cntF v 0 i) + (nI 1))), some (.int ((cntF v 6 i) + (nI 0))), some (.int ((cntF v 7 i) + (nI 1))), some (.int ((sm v i) + (v (176 + 56 * i + 14)))), some (.int (nI T)), some (.int (nI i)), some (.int (nI 4)), some (.int (nI 1)), some (.int (nI 0)), some (.int (nI 1))] []) (fun kk => ?_) ?_
      ·
        refine j_if_ne (pc' := 414) (tgt := 418) dL_agrees_411 rfl (by decide) (fun c411 => ?_) (fun c411 => ?_)
        ·
          refine j_iconst (pc' := 419) (v := nI 0) dL_agrees_418 rfl rfl ?_
          refine j_aload_n (pc' := 420) dL_agrees_419 rfl rfl ?_
          refine j_iload (pc' := 422) dL_agrees_420 rfl rfl ?_
          refine j_bipush (pc' := 424) (v := nI 12) dL_agrees_422 rfl rfl ?_
          refine j_cVi (pc' := 427) m_L_31 (p_point hD hV (by omega) (by omega) (a := v (176 + 56 * i + 12)) ((fPt_w hV.z h16 hi (show 12 < 15 from by omega)))) Kd (by decide) rfl rfl rfl ⟨Nat.le_of_ble_eq_true rfl, Nat.le_of_ble_eq_true rfl⟩ ⟨Nat.le_of_ble_eq_true rfl, Nat.le_of_ble_eq_true rfl⟩ (Nat.le_of_ble_eq_true rfl) dL_agrees_424 rfl (fun x1 J1 hq => ?_)
          obtain ⟨hx, hI⟩ := hq
          rw [hx, hI]
          refine j_ifT_ne (tgt := 434) (fun z => c411 (h14.mpr z)) dL_agrees_427 (by decide) ?_
          refine j_iconst (pc' := 435) (v := nI 0) dL_agrees_434 rfl rfl ?_
          refine j_icmpF_ne (pc' := 438) (tgt := 454) (by decide) dL_agrees_435 (by decide) rfl ?_
          exact kk
        ·
          refine j_iconst (pc' := 415) (v := nI 1) dL_agrees_414 rfl rfl ?_
          refine j_goto (tgt := 419) dL_agrees_415 (by decide) ?_
          refine j_aload_n (pc' := 420) dL_agrees_419 rfl rfl ?_
          refine j_iload (pc' := 422) dL_agrees_420 rfl rfl ?_
          refine j_bipush (pc' := 424) (v := nI 12) dL_agrees_422 rfl rfl ?_
          refine j_cVi (pc' := 427) m_L_31 (p_point hD hV (by omega) (by omega) (a := v (176 + 56 * i + 12)) ((fPt_w hV.z h16 hi (show 12 < 15 from by omega)))) Kd (by decide) rfl rfl rfl ⟨Nat.le_of_ble_eq_true rfl, Nat.le_of_ble_eq_true rfl⟩ ⟨Nat.le_of_ble_eq_true rfl, Nat.le_of_ble_eq_true rfl⟩ (Nat.le_of_ble_eq_true rfl) dL_agrees_424 rfl (fun x1 J1 hq => ?_)
          obtain ⟨hx, hI⟩ := hq
          rw [hx, hI]
          refine j_ifF_ne (pc' := 430) (tgt := 434) (h14.mp c411) dL_agrees_427 (by decide) rfl ?_
          refine j_iconst (pc' := 431) (v := nI 1) dL_agrees_430 rfl rfl ?_
          refine j_goto (tgt := 435) dL_agrees_431 (by decide) ?_
          refine j_icmpF_ne (pc' := 438) (tgt := 454) (by decide) dL_agrees_435 (by decide) rfl ?_
          exact kk
      ·
        refine j_aload_n (pc' := 439) dL_agrees_438 rfl rfl ?_
        refine j_iload (pc' := 441) dL_agrees_439 rfl rfl ?_
        refine j_bipush (pc' := 443) (v := nI 14) dL_agrees_441 rfl rfl ?_
        refine j_cVi (pc' := 446) m_L_31 (p_point hD hV (by omega) (by omega) (a := v (176 + 56 * i + 14)) ((fPt_w hV.z h16 hi (show 14 < 15 from by omega)))) Kd (by decide) rfl rfl rfl ⟨Nat.le_of_ble_eq_true rfl, Nat.le_of_ble_eq_true rfl⟩ ⟨Nat.le_of_ble_eq_true rfl, Nat.le_of_ble_eq_true rfl⟩ (Nat.le_of_ble_eq_true rfl) dL_agrees_443 rfl (fun x1 J1 hq => ?_)
        obtain ⟨hx, hI⟩ := hq
        rw [hx, hI]
        refine jx_cut (B := jx_J E l cL_agrees 13 (some .boolean) RL false rmA 1 5 (fun v' n' kd' R' I' => v' = some (.int (nI 1)) ∧ LZ kd' R' I' d k T B) 1 5 n kd R I2 456 [some (.ref d), some (.int (nI k)), some (.ref a), some (.int ((cntF v 0 i) + (nI 1))), some (.int ((cntF v 6 i) + (nI 0))), some (.int ((cntF v 7 i) + (nI 1))), some (.int ((sm v i) + (v (176 + 56 * i + 14)))), some (.int (nI T)), some (.int (nI i)), some (.int (nI 4)), some (.int (nI 1)), some (.int (nI 0)), some (.int (nI 1))] []) (fun kk => ?_) ?_
        ·
          refine j_if_ne (pc' := 449) (tgt := 456) dL_agrees_446 rfl (by decide) (fun c446 => ?_) (fun c446 => ?_)
          ·
            exact kk
          ·
            exact absurd (hal c446) (by rw [h9, h10]; decide)
        ·
          refine j_iincN (pc' := 459) (lv' := [_, _, _, _, _, _, _, _, _, _, _, _, _]) dL_agrees_456 rfl rfl (by decide) rfl ?_
          refine j_goto (tgt := 25) dL_agrees_459 (by decide) ?_
          have e0 : cntF v 0 (i + 1) = cntF v 0 i + nI 1 := cnt_t (by rw [cC0]; exact hst)
          have e6 : cntF v 6 (i + 1) = cntF v 6 i + nI 0 := cnt_f (by rw [cC6]; exact decide_eq_false (fun z => z hsh))
          have e7 : cntF v 7 (i + 1) = cntF v 7 i + nI 1 := cnt_t (by rw [cC7]; exact decide_eq_true h10)
          refine j_eqLA e0 e6 e7 ?_
          exact ih (i + 1) I2 _ _ _ _ (by omega) (by omega) hD hA2
set_option maxRecDepth 100000 in
set_option maxHeartbeats 4000000 in
theorem ag_00_00 {E : jx_E} {l : Launch} {n : Nat} {kd : jx_K} {R : jx_R} {d : Nat} {v p : Nat → Int32} {q B k T S N : Nat} {i a : Nat} {I : jx_I} {y9 y10 y11 y12 : Option Value} (hV : VI v k T S N) (hN : N ≤ B) (hB : B + 100000 < 2147483000) (hP : PI v k T) (hi : i < k) (hka : kd a = (7, 5)) (hda : d + 344 ≤ a) (ih : ∀ (j : Nat) (I : jx_I) (y9 y10 y11 y12 : Option Value), i < j → j ≤ k → DK kd R I d v p q B → (∀ w, w < 5 → I a w = cntF v (w + 1) j) → jx_J E l cL_agrees 13 (some .boolean) RL false rmA 1 5 (fun v' n' kd' R' I' => v' = some (.int (nI 1)) ∧ LZ kd' R' I' d k T B) 1 5 n kd R I 25 [some (.ref d), some (.int (nI k)), some (.ref a), some (.int (cntF v 0 j)), some (.int (cntF v 6 j)), some (.int (cntF v 7 j)), some (.int (sm v j)), some (.int (nI T)), some (.int (nI j)), y9, y10, y11, y12] []) (hD : DK kd R I d v p q B) (hA : ∀ w, w < 5 → I a w = cntF v (w + 1) i) (h9 : v (176 + 56 * i + 9) = nI 0) (h10 : v (176 + 56 * i + 10) = nI 0) (hst : sStand v i = true) (hwf : WF v i 0) (hsh : v (176 + 56 * i + 13) ≤ 0) : jx_J E l cL_agrees 13 (some .boolean) RL false rmA 1 5 (fun v' n' kd' R' I' => v' = some (.int (nI 1)) ∧ LZ kd' R' I' d k T B) 1 5 n kd R I 25 [some (.ref d), some (.int (nI k)), some (.ref a), some (.int (cntF v 0 i)), some (.int (cntF v 6 i)), some (.int (cntF v 7 i)), some (.int (sm v i)), some (.int (nI T)), some (.int (nI i)), y9, y10, y11, y12] [] := by
  have h16 := hV.k16
  have Kd := hD.k5
  have hT := hV.tl
  obtain ⟨hp1, hp2⟩ := hP.1 i hi
  obtain ⟨⟨c, hc, e11⟩, aa, ll, haa, hll, e14, e12, hal0, hz⟩ := hp1
  have h14 : v (176 + 56 * i + 14) = 0 ↔ v (176 + 56 * i + 12) = 0 := by
    rw [e14, e12]
    have x1 := nI_eq (show aa < 2 ^ 31 from by omega) (show 0 < 2 ^ 31 from by omega)
    have x2 := nI_eq (show ll < 2 ^ 31 from by omega) (show 0 < 2 ^ 31 from by omega)
    exact x1.trans (hal0.trans x2.symm)
  have hal : v (176 + 56 * i + 14) = 0 → v (176 + 56 * i + 9) = nI 0 ∧ v (176 + 56 * i + 10) = nI 1 := fun z => hz ((nI_eq (show aa < 2 ^ 31 from by omega) (show 0 < 2 ^ 31 from by omega)).mp (e14.symm.trans z))
  have hgtT : ¬ v (176 + 56 * i + 13) = 0 → ¬ v (176 + 56 * i + 13) ≤ nI T := by
    intro z
    rcases hp2.2 with e | ⟨u, hu, hu2, e⟩
    · exact absurd e z
    · rw [e]; exact nI_ge hu (by omega)
  have hw0 := hwf.1
  refine j_iload (pc' := 27) dL_agrees_25 rfl rfl ?_
  refine j_iload_n (pc' := 28) dL_agrees_27 rfl rfl ?_
  refine j_icmpF_ge (pc' := 31) (tgt := 462) (nI_ge hi (by omega)) dL_agrees_28 (by decide) rfl ?_
  refine j_aload_n (pc' := 32) dL_agrees_31 rfl rfl ?_
  refine j_iload (pc' := 34) dL_agrees_32 rfl rfl ?_
  refine j_bipush (pc' := 36) (v := nI 15) dL_agrees_34 rfl rfl ?_
  refine j_cVi (pc' := 39) m_L_31 (p_point hD hV (by omega) (by omega) (a := nI 0) ((fPt_15 hV.z h16 hi).trans hw0)) Kd (by decide) rfl rfl rfl ⟨Nat.le_of_ble_eq_true rfl, Nat.le_of_ble_eq_true rfl⟩ ⟨Nat.le_of_ble_eq_true rfl, Nat.le_of_ble_eq_true rfl⟩ (Nat.le_of_ble_eq_true rfl) dL_agrees_36 rfl (fun x1 J1 hq => ?_)
  obtain ⟨hx, hI⟩ := hq
  rw [hx, hI]
  refine j_istore (pc' := 41) (lv' := [_, _, _, _, _, _, _, _, _, _, _, _, _]) dL_agrees_39 rfl (by decide) rfl ?_
  refine j_aload_n (pc' := 42) dL_agrees_41 rfl rfl ?_
  refine j_iload (pc' := 44) dL_agrees_42 rfl rfl ?_
  refine j_bipush (pc' := 46) (v := nI 9) dL_agrees_44 rfl rfl ?_
  refine j_cVi (pc' := 49) m_L_31 (p_point hD hV (by omega) (by omega) (a := nI 0) ((fPt_w hV.z h16 hi (show 9 < 15 from by omega)).trans (h9))) Kd (by decide) rfl rfl rfl ⟨Nat.le_of_ble_eq_true rfl, Nat.le_of_ble_eq_true rfl⟩ ⟨Nat.le_of_ble_eq_true rfl, Nat.le_of_ble_eq_true rfl⟩ (Nat.le_of_ble_eq_true rfl) dL_agrees_46 rfl (fun x1 J1 hq => ?_)
  obtain ⟨hx, hI⟩ := hq
  rw [hx, hI]
  refine j_iconst (pc' := 50) (v := nI 1) dL_agrees_49 rfl rfl ?_
  refine j_icmpT_ne (tgt := 57) (by decide) dL_agrees_50 (by decide) ?_
  refine j_iconst (pc' := 58) (v := nI 0) dL_agrees_57 rfl rfl ?_
  refine j_istore (pc' := 60) (lv' := [_, _, _, _, _, _, _, _, _, _, _, _, _]) dL_agrees_58 rfl (by decide) rfl ?_
  refine j_aload_n (pc' := 61) dL_agrees_60 rfl rfl ?_
  refine j_iload (pc' := 63) dL_agrees_61 rfl rfl ?_
  refine j_bipush (pc' := 65) (v := nI 10) dL_agrees_63 rfl rfl ?_
  refine j_cVi (pc' := 68) m_L_31 (p_point hD hV (by omega) (by omega) (a := nI 0) ((fPt_w hV.z h16 hi (show 10 < 15 from by omega)).trans (h10))) Kd (by decide) rfl rfl rfl ⟨Nat.le_of_ble_eq_true rfl, Nat.le_of_ble_eq_true rfl⟩ ⟨Nat.le_of_ble_eq_true rfl, Nat.le_of_ble_eq_true rfl⟩ (Nat.le_of_ble_eq_true rfl) dL_agrees_65 rfl (fun x1 J1 hq => ?_)
  obtain ⟨hx, hI⟩ := hq
  rw [hx, hI]
  refine j_iconst (pc' := 69) (v := nI 1) dL_agrees_68 rfl rfl ?_
  refine j_icmpT_ne (tgt := 76) (by decide) dL_agrees_69 (by decide) ?_
  refine j_iconst (pc' := 77) (v := nI 0) dL_agrees_76 rfl rfl ?_
  refine j_istore (pc' := 79) (lv' := [_, _, _, _, _, _, _, _, _, _, _, _, _]) dL_agrees_77 rfl (by decide) rfl ?_
  refine j_iload (pc' := 81) dL_agrees_79 rfl rfl ?_
  refine j_ifF_ne (pc' := 84) (tgt := 89) (by decide) dL_agrees_81 (by decide) rfl ?_
  refine j_iload (pc' := 86) dL_agrees_84 rfl rfl ?_
  refine j_ifF_ne (pc' := 89) (tgt := 93) (by decide) dL_agrees_86 (by decide) rfl ?_
  refine j_iconst (pc' := 90) (v := nI 1) dL_agrees_89 rfl rfl ?_
  refine j_goto (tgt := 94) dL_agrees_90 (by decide) ?_
  refine j_istore (pc' := 96) (lv' := [_, _, _, _, _, _, _, _, _, _, _, _, _]) dL_agrees_94 rfl (by decide) rfl ?_
  refine j_iload_n (pc' := 97) dL_agrees_96 rfl rfl ?_
  refine j_iload (pc' := 99) dL_agrees_97 rfl rfl ?_
  refine j_ifF_eq (pc' := 102) (tgt := 106) (by decide) dL_agrees_99 (by decide) rfl ?_
  refine j_iconst (pc' := 103) (v := nI 1) dL_agrees_102 rfl rfl ?_
  refine j_goto (tgt := 107) dL_agrees_103 (by decide) ?_
  refine j_iadd (pc' := 108) dL_agrees_107 rfl ?_
  refine j_istore_n (pc' := 109) (lv' := [_, _, _, _, _, _, _, _, _, _, _, _, _]) dL_agrees_108 rfl (by decide) rfl ?_
  refine j_iload (pc' := 111) dL_agrees_109 rfl rfl ?_
  refine j_aload_n (pc' := 112) dL_agrees_111 rfl rfl ?_
  refine j_iload (pc' := 114) dL_agrees_112 rfl rfl ?_
  refine j_bipush (pc' := 116) (v := nI 13) dL_agrees_114 rfl rfl ?_
  refine j_cVi (pc' := 119) m_L_31 (p_point hD hV (by omega) (by omega) (a := v (176 + 56 * i + 13)) ((fPt_w hV.z h16 hi (show 13 < 15 from by omega)))) Kd (by decide) rfl rfl rfl ⟨Nat.le_of_ble_eq_true rfl, Nat.le_of_ble_eq_true rfl⟩ ⟨Nat.le_of_ble_eq_true rfl, Nat.le_of_ble_eq_true rfl⟩ (Nat.le_of_ble_eq_true rfl) dL_agrees_116 rfl (fun x1 J1 hq => ?_)
  obtain ⟨hx, hI⟩ := hq
  rw [hx, hI]
  refine j_ifT_le (tgt := 126) (hsh) dL_agrees_119 (by decide) ?_
  refine j_iconst (pc' := 127) (v := nI 0) dL_agrees_126 rfl rfl ?_
  refine j_iadd (pc' := 128) dL_agrees_127 rfl ?_
  refine j_istore (pc' := 130) (lv' := [_, _, _, _, _, _, _, _, _, _, _, _, _]) dL_agrees_128 rfl (by decide) rfl ?_
  refine j_iload (pc' := 132) dL_agrees_130 rfl rfl ?_
  refine j_iload (pc' := 134) dL_agrees_132 rfl rfl ?_
  refine j_ifT_eq (tgt := 141) (by decide) dL_agrees_134 (by decide) ?_
  refine j_iconst (pc' := 142) (v := nI 1) dL_agrees_141 rfl rfl ?_
  refine j_iadd (pc' := 143) dL_agrees_142 rfl ?_
  refine j_istore (pc' := 145) (lv' := [_, _, _, _, _, _, _, _, _, _, _, _, _]) dL_agrees_143 rfl (by decide) rfl ?_
  refine j_iload (pc' := 147) dL_agrees_145 rfl rfl ?_
  refine j_aload_n (pc' := 148) dL_agrees_147 rfl rfl ?_
  refine j_iload (pc' := 150) dL_agrees_148 rfl rfl ?_
  refine j_bipush (pc' := 152) (v := nI 14) dL_agrees_150 rfl rfl ?_
  refine j_cVi (pc' := 155) m_L_31 (p_point hD hV (by omega) (by omega) (a := v (176 + 56 * i + 14)) ((fPt_w hV.z h16 hi (show 14 < 15 from by omega)))) Kd (by decide) rfl rfl rfl ⟨Nat.le_of_ble_eq_true rfl, Nat.le_of_ble_eq_true rfl⟩ ⟨Nat.le_of_ble_eq_true rfl, Nat.le_of_ble_eq_true rfl⟩ (Nat.le_of_ble_eq_true rfl) dL_agrees_152 rfl (fun x1 J1 hq => ?_)
  obtain ⟨hx, hI⟩ := hq
  rw [hx, hI]
  refine j_iadd (pc' := 156) dL_agrees_155 rfl ?_
  refine j_istore (pc' := 158) (lv' := [_, _, _, _, _, _, _, _, _, _, _, _, _]) dL_agrees_156 rfl (by decide) rfl ?_
  refine j_iload (pc' := 160) dL_agrees_158 rfl rfl ?_
  refine j_ifF_eq (pc' := 163) (tgt := 177) (by decide) dL_agrees_160 (by decide) rfl ?_
  refine j_iload (pc' := 165) dL_agrees_163 rfl rfl ?_
  refine j_ifF_lt (pc' := 168) (tgt := 185) (by decide) dL_agrees_165 (by decide) rfl ?_
  refine j_iload (pc' := 170) dL_agrees_168 rfl rfl ?_
  refine j_iconst (pc' := 171) (v := nI 4) dL_agrees_170 rfl rfl ?_
  refine j_icmpT_le (tgt := 187) (by decide) dL_agrees_171 (by decide) ?_
  refine j_aload_n (pc' := 188) dL_agrees_187 rfl rfl ?_
  refine j_iload (pc' := 190) dL_agrees_188 rfl rfl ?_
  refine j_ifT_ge (tgt := 197) (by decide) dL_agrees_190 (by decide) ?_
  refine j_iload (pc' := 199) dL_agrees_197 rfl rfl ?_
  refine j_dup2 (pc' := 200) dL_agrees_199 rfl rfl rfl ?_
  refine j_ialdv (pc' := 201) hka rfl (by decide) (by decide) (hA _ (by decide)) dL_agrees_200 rfl ?_
  refine j_iload (pc' := 203) dL_agrees_201 rfl rfl ?_
  refine j_ifF_eq (pc' := 206) (tgt := 210) (by decide) dL_agrees_203 (by decide) rfl ?_
  refine j_iconst (pc' := 207) (v := nI 1) dL_agrees_206 rfl rfl ?_
  refine j_goto (tgt := 211) dL_agrees_207 (by decide) ?_
  refine j_iadd (pc' := 212) dL_agrees_211 rfl ?_
  refine j_iast (pc' := 213) hka rfl (by decide) (by decide) dL_agrees_212 rfl ?_
  have hD2 := hD.upA (j := 0) (x := cntF v 1 i + nI 1) hda
  have hA2 := why_up (a := a) (by decide) hw0 hA
  change jx_J E l cL_agrees 13 (some .boolean) RL false rmA 1 5 (fun v' n' kd' R' I' => v' = some (.int (nI 1)) ∧ LZ kd' R' I' d k T B) 1 5 n kd R (jx_up I a 0 (cntF v 1 i + nI 1)) 213 _ _
  generalize jx_up I a 0 (cntF v 1 i + nI 1) = I2 at hD2 hA2 ⊢
  have hD := hD2
  refine j_aload_n (pc' := 214) dL_agrees_213 rfl rfl ?_
  refine j_iload (pc' := 216) dL_agrees_214 rfl rfl ?_
  refine j_iconst (pc' := 217) (v := nI 5) dL_agrees_216 rfl rfl ?_
  refine j_cVi (pc' := 220) m_L_31 (p_point hD hV (by omega) (by omega) (a := v (176 + 56 * i + 5)) ((fPt_w hV.z h16 hi (show 5 < 15 from by omega)))) Kd (by decide) rfl rfl rfl ⟨Nat.le_of_ble_eq_true rfl, Nat.le_of_ble_eq_true rfl⟩ ⟨Nat.le_of_ble_eq_true rfl, Nat.le_of_ble_eq_true rfl⟩ (Nat.le_of_ble_eq_true rfl) dL_agrees_217 rfl (fun x1 J1 hq => ?_)
  obtain ⟨hx, hI⟩ := hq
  rw [hx, hI]
  refine j_iconst (pc' := 221) (v := nI 1) dL_agrees_220 rfl rfl ?_
  refine jx_cut (B := jx_J E l cL_agrees 13 (some .boolean) RL false rmA 1 5 (fun v' n' kd' R' I' => v' = some (.int (nI 1)) ∧ LZ kd' R' I' d k T B) 1 5 n kd R I2 240 [some (.ref d), some (.int (nI k)), some (.ref a), some (.int ((cntF v 0 i) + (nI 1))), some (.int ((cntF v 6 i) + (nI 0))), some (.int ((cntF v 7 i) + (nI 1))), some (.int ((sm v i) + (v (176 + 56 * i + 14)))), some (.int (nI T)), some (.int (nI i)), some (.int (nI 0)), some (.int (nI 0)), some (.int (nI 0)), some (.int (nI 1))] []) (fun kk => ?_) ?_
  ·
    refine j_icmp_ne (pc' := 224) (tgt := 240) dL_agrees_221 rfl (by decide) (fun c221 => ?_) (fun c221 => ?_)
    ·
      exact kk
    ·
      refine j_iload (pc' := 226) dL_agrees_224 rfl rfl ?_
      refine j_ifF_gt (pc' := 229) (tgt := 348) (by decide) dL_agrees_226 (by decide) rfl ?_
      refine j_aload_n (pc' := 230) dL_agrees_229 rfl rfl ?_
      refine j_iload (pc' := 232) dL_agrees_230 rfl rfl ?_
      refine j_bipush (pc' := 234) (v := nI 13) dL_agrees_232 rfl rfl ?_
      refine j_cVi (pc' := 237) m_L_31 (p_point hD hV (by omega) (by omega) (a := v (176 + 56 * i + 13)) ((fPt_w hV.z h16 hi (show 13 < 15 from by omega)))) Kd (by decide) rfl rfl rfl ⟨Nat.le_of_ble_eq_true rfl, Nat.le_of_ble_eq_true rfl⟩ ⟨Nat.le_of_ble_eq_true rfl, Nat.le_of_ble_eq_true rfl⟩ (Nat.le_of_ble_eq_true rfl) dL_agrees_234 rfl (fun x1 J1 hq => ?_)
      obtain ⟨hx, hI⟩ := hq
      rw [hx, hI]
      refine j_ifF_ne (pc' := 240) (tgt := 348) (hp2.1 c221) dL_agrees_237 (by decide) rfl ?_
      exact kk
  ·
    refine j_aload_n (pc' := 241) dL_agrees_240 rfl rfl ?_
    refine j_iload (pc' := 243) dL_agrees_241 rfl rfl ?_
    refine j_bipush (pc' := 245) (v := nI 13) dL_agrees_243 rfl rfl ?_
    refine j_cVi (pc' := 248) m_L_31 (p_point hD hV (by omega) (by omega) (a := v (176 + 56 * i + 13)) ((fPt_w hV.z h16 hi (show 13 < 15 from by omega)))) Kd (by decide) rfl rfl rfl ⟨Nat.le_of_ble_eq_true rfl, Nat.le_of_ble_eq_true rfl⟩ ⟨Nat.le_of_ble_eq_true rfl, Nat.le_of_ble_eq_true rfl⟩ (Nat.le_of_ble_eq_true rfl) dL_agrees_245 rfl (fun x1 J1 hq => ?_)
    obtain ⟨hx, hI⟩ := hq
    rw [hx, hI]
    refine jx_cut (B := jx_J E l cL_agrees 13 (some .boolean) RL false rmA 1 5 (fun v' n' kd' R' I' => v' = some (.int (nI 1)) ∧ LZ kd' R' I' d k T B) 1 5 n kd R I2 264 [some (.ref d), some (.int (nI k)), some (.ref a), some (.int ((cntF v 0 i) + (nI 1))), some (.int ((cntF v 6 i) + (nI 0))), some (.int ((cntF v 7 i) + (nI 1))), some (.int ((sm v i) + (v (176 + 56 * i + 14)))), some (.int (nI T)), some (.int (nI i)), some (.int (nI 0)), some (.int (nI 0)), some (.int (nI 0)), some (.int (nI 1))] []) (fun kk => ?_) ?_
    ·
      refine j_if_eq (pc' := 251) (tgt := 264) dL_agrees_248 rfl (by decide) (fun c248 => ?_) (fun c248 => ?_)
      ·
        exact kk
      ·
        refine j_aload_n (pc' := 252) dL_agrees_251 rfl rfl ?_
        refine j_iload (pc' := 254) dL_agrees_252 rfl rfl ?_
        refine j_bipush (pc' := 256) (v := nI 13) dL_agrees_254 rfl rfl ?_
        refine j_cVi (pc' := 259) m_L_31 (p_point hD hV (by omega) (by omega) (a := v (176 + 56 * i + 13)) ((fPt_w hV.z h16 hi (show 13 < 15 from by omega)))) Kd (by decide) rfl rfl rfl ⟨Nat.le_of_ble_eq_true rfl, Nat.le_of_ble_eq_true rfl⟩ ⟨Nat.le_of_ble_eq_true rfl, Nat.le_of_ble_eq_true rfl⟩ (Nat.le_of_ble_eq_true rfl) dL_agrees_256 rfl (fun x1 J1 hq => ?_)
        obtain ⟨hx, hI⟩ := hq
        rw [hx, hI]
        refine j_iload (pc' := 261) dL_agrees_259 rfl rfl ?_
        refine j_icmpF_le (pc' := 264) (tgt := 348) (hgtT c248) dL_agrees_261 (by decide) rfl ?_
        exact kk
    ·
      refine j_iload (pc' := 266) dL_agrees_264 rfl rfl ?_
      refine j_iconst (pc' := 267) (v := nI 1) dL_agrees_266 rfl rfl ?_
      refine j_icmpT_ne (tgt := 281) (by decide) dL_agrees_267 (by decide) ?_
      refine j_iload (pc' := 283) dL_agrees_281 rfl rfl ?_
      refine j_iconst (pc' := 284) (v := nI 2) dL_agrees_283 rfl rfl ?_
      refine j_icmpT_ne (tgt := 306) (by decide) dL_agrees_284 (by decide) ?_
      refine j_iload (pc' := 308) dL_agrees_306 rfl rfl ?_
      refine j_iconst (pc' := 309) (v := nI 3) dL_agrees_308 rfl rfl ?_
      refine j_icmpT_ne (tgt := 323) (by decide) dL_agrees_309 (by decide) ?_
      refine j_iload (pc' := 325) dL_agrees_323 rfl rfl ?_
      refine j_iconst (pc' := 326) (v := nI 4) dL_agrees_325 rfl rfl ?_
      refine j_icmpT_ne (tgt := 350) (by decide) dL_agrees_326 (by decide) ?_
      refine j_aload_n (pc' := 351) dL_agrees_350 rfl rfl ?_
      refine j_iload (pc' := 353) dL_agrees_351 rfl rfl ?_
      refine j_bipush (pc' := 355) (v := nI 11) dL_agrees_353 rfl rfl ?_
      refine j_cVi (pc' := 358) m_L_31 (p_point hD hV (by omega) (by omega) (a := v (176 + 56 * i + 11)) ((fPt_w hV.z h16 hi (show 11 < 15 from by omega)))) Kd (by decide) rfl rfl rfl ⟨Nat.le_of_ble_eq_true rfl, Nat.le_of_ble_eq_true rfl⟩ ⟨Nat.le_of_ble_eq_true rfl, Nat.le_of_ble_eq_true rfl⟩ (Nat.le_of_ble_eq_true rfl) dL_agrees_355 rfl (fun x1 J1 hq => ?_)
      obtain ⟨hx, hI⟩ := hq
      rw [hx, hI]
      refine j_aload_n (pc' := 359) dL_agrees_358 rfl rfl ?_
      refine j_iload (pc' := 361) dL_agrees_359 rfl rfl ?_
      refine j_iload (pc' := 363) dL_agrees_361 rfl rfl ?_
      refine j_ifT_eq (tgt := 370) (by decide) dL_agrees_363 (by decide) ?_
      refine j_iconst (pc' := 371) (v := nI 3) dL_agrees_370 rfl rfl ?_
      refine j_cVi (pc' := 374) m_L_31 (p_point hD hV (by omega) (by omega) (a := v (176 + 56 * i + 3)) ((fPt_w hV.z h16 hi (show 3 < 15 from by omega)))) Kd (by decide) rfl rfl rfl ⟨Nat.le_of_ble_eq_true rfl, Nat.le_of_ble_eq_true rfl⟩ ⟨Nat.le_of_ble_eq_true rfl, Nat.le_of_ble_eq_true rfl⟩ (Nat.le_of_ble_eq_true rfl) dL_agrees_371 rfl (fun x1 J1 hq => ?_)
      obtain ⟨hx, hI⟩ := hq
      rw [hx, hI]
      refine jx_cut (B := jx_J E l cL_agrees 13 (some .boolean) RL false rmA 1 5 (fun v' n' kd' R' I' => v' = some (.int (nI 1)) ∧ LZ kd' R' I' d k T B) 1 5 n kd R I2 390 [some (.ref d), some (.int (nI k)), some (.ref a), some (.int ((cntF v 0 i) + (nI 1))), some (.int ((cntF v 6 i) + (nI 0))), some (.int ((cntF v 7 i) + (nI 1))), some (.int ((sm v i) + (v (176 + 56 * i + 14)))), some (.int (nI T)), some (.int (nI i)), some (.int (nI 0)), some (.int (nI 0)), some (.int (nI 0)), some (.int (nI 1))] []) (fun kk => ?_) ?_
      ·
        refine j_icmp_le (pc' := 377) (tgt := 390) dL_agrees_374 rfl (by decide) (fun c374 => ?_) (fun c374 => ?_)
        ·
          exact kk
        ·
          refine j_aload_n (pc' := 378) dL_agrees_377 rfl rfl ?_
          refine j_iload (pc' := 380) dL_agrees_378 rfl rfl ?_
          refine j_bipush (pc' := 382) (v := nI 11) dL_agrees_380 rfl rfl ?_
          refine j_cVi (pc' := 385) m_L_31 (p_point hD hV (by omega) (by omega) (a := nI c) ((fPt_w hV.z h16 hi (show 11 < 15 from by omega)).trans (e11))) Kd (by decide) rfl rfl rfl ⟨Nat.le_of_ble_eq_true rfl, Nat.le_of_ble_eq_true rfl⟩ ⟨Nat.le_of_ble_eq_true rfl, Nat.le_of_ble_eq_true rfl⟩ (Nat.le_of_ble_eq_true rfl) dL_agrees_382 rfl (fun x1 J1 hq => ?_)
          obtain ⟨hx, hI⟩ := hq
          rw [hx, hI]
          refine j_bipush (pc' := 387) (v := nI 20) dL_agrees_385 rfl rfl ?_
          refine j_icmpF_gt (pc' := 390) (tgt := 454) (nI_nlt (by omega) (by omega)) dL_agrees_387 (by decide) rfl ?_
          exact kk
      ·
        refine j_aload_n (pc' := 391) dL_agrees_390 rfl rfl ?_
        refine j_iload (pc' := 393) dL_agrees_391 rfl rfl ?_
        refine j_bipush (pc' := 395) (v := nI 12) dL_agrees_393 rfl rfl ?_
        refine j_cVi (pc' := 398) m_L_31 (p_point hD hV (by omega) (by omega) (a := nI ll) ((fPt_w hV.z h16 hi (show 12 < 15 from by omega)).trans (e12))) Kd (by decide) rfl rfl rfl ⟨Nat.le_of_ble_eq_true rfl, Nat.le_of_ble_eq_true rfl⟩ ⟨Nat.le_of_ble_eq_true rfl, Nat.le_of_ble_eq_true rfl⟩ (Nat.le_of_ble_eq_true rfl) dL_agrees_395 rfl (fun x1 J1 hq => ?_)
        obtain ⟨hx, hI⟩ := hq
        rw [hx, hI]
        refine j_iload (pc' := 400) dL_agrees_398 rfl rfl ?_
        refine j_icmpF_gt (pc' := 403) (tgt := 454) (nI_nlt (by omega) (by omega)) dL_agrees_400 (by decide) rfl ?_
        refine j_aload_n (pc' := 404) dL_agrees_403 rfl rfl ?_
        refine j_iload (pc' := 406) dL_agrees_404 rfl rfl ?_
        refine j_bipush (pc' := 408) (v := nI 14) dL_agrees_406 rfl rfl ?_
        refine j_cVi (pc' := 411) m_L_31 (p_point hD hV (by omega) (by omega) (a := v (176 + 56 * i + 14)) ((fPt_w hV.z h16 hi (show 14 < 15 from by omega)))) Kd (by decide) rfl rfl rfl ⟨Nat.le_of_ble_eq_true rfl, Nat.le_of_ble_eq_true rfl⟩ ⟨Nat.le_of_ble_eq_true rfl, Nat.le_of_ble_eq_true rfl⟩ (Nat.le_of_ble_eq_true rfl) dL_agrees_408 rfl (fun x1 J1 hq => ?_)
        obtain ⟨hx, hI⟩ := hq
        rw [hx, hI]
        refine jx_cut (B := jx_J E l cL_agrees 13 (some .boolean) RL false rmA 1 5 (fun v' n' kd' R' I' => v' = some (.int (nI 1)) ∧ LZ kd' R' I' d k T B) 1 5 n kd R I2 438 [some (.ref d), some (.int (nI k)), some (.ref a), some (.int ((cntF v 0 i) + (nI 1))), some (.int ((cntF v 6 i) + (nI 0))), some (.int ((cntF v 7 i) + (nI 1))), some (.int ((sm v i) + (v (176 + 56 * i + 14)))), some (.int (nI T)), some (.int (nI i)), some (.int (nI 0)), some (.int (nI 0)), some (.int (nI 0)), some (.int (nI 1))] []) (fun kk => ?_) ?_
        ·
          refine j_if_ne (pc' := 414) (tgt := 418) dL_agrees_411 rfl (by decide) (fun c411 => ?_) (fun c411 => ?_)
          ·
            refine j_iconst (pc' := 419) (v := nI 0) dL_agrees_418 rfl rfl ?_
            refine j_aload_n (pc' := 420) dL_agrees_419 rfl rfl ?_
            refine j_iload (pc' := 422) dL_agrees_420 rfl rfl ?_
            refine j_bipush (pc' := 424) (v := nI 12) dL_agrees_422 rfl rfl ?_
            refine j_cVi (pc' := 427) m_L_31 (p_point hD hV (by omega) (by omega) (a := v (176 + 56 * i + 12)) ((fPt_w hV.z h16 hi (show 12 < 15 from by omega)))) Kd (by decide) rfl rfl rfl ⟨Nat.le_of_ble_eq_true rfl, Nat.le_of_ble_eq_true rfl⟩ ⟨Nat.le_of_ble_eq_true rfl, Nat.le_of_ble_eq_true rfl⟩ (Nat.le_of_ble_eq_true rfl) dL_agrees_424 rfl (fun x1 J1 hq => ?_)
            obtain ⟨hx, hI⟩ := hq
            rw [hx, hI]
            refine j_ifT_ne (tgt := 434) (fun z => c411 (h14.mpr z)) dL_agrees_427 (by decide) ?_
            refine j_iconst (pc' := 435) (v := nI 0) dL_agrees_434 rfl rfl ?_
            refine j_icmpF_ne (pc' := 438) (tgt := 454) (by decide) dL_agrees_435 (by decide) rfl ?_
            exact kk
          ·
            refine j_iconst (pc' := 415) (v := nI 1) dL_agrees_414 rfl rfl ?_
            refine j_goto (tgt := 419) dL_agrees_415 (by decide) ?_
            refine j_aload_n (pc' := 420) dL_agrees_419 rfl rfl ?_
            refine j_iload (pc' := 422) dL_agrees_420 rfl rfl ?_
            refine j_bipush (pc' := 424) (v := nI 12) dL_agrees_422 rfl rfl ?_
            refine j_cVi (pc' := 427) m_L_31 (p_point hD hV (by omega) (by omega) (a := v (176 + 56 * i + 12)) ((fPt_w hV.z h16 hi (show 12 < 15 from by omega)))) Kd (by decide) rfl rfl rfl ⟨Nat.le_of_ble_eq_true rfl, Nat.le_of_ble_eq_true rfl⟩ ⟨Nat.le_of_ble_eq_true rfl, Nat.le_of_ble_eq_true rfl⟩ (Nat.le_of_ble_eq_true rfl) dL_agrees_424 rfl (fun x1 J1 hq => ?_)
            obtain ⟨hx, hI⟩ := hq
            rw [hx, hI]
            refine j_ifF_ne (pc' := 430) (tgt := 434) (h14.mp c411) dL_agrees_427 (by decide) rfl ?_
            refine j_iconst (pc' := 431) (v := nI 1) dL_agrees_430 rfl rfl ?_
            refine j_goto (tgt := 435) dL_agrees_431 (by decide) ?_
            refine j_icmpF_ne (pc' := 438) (tgt := 454) (by decide) dL_agrees_435 (by decide) rfl ?_
            exact kk
        ·
          refine j_aload_n (pc' := 439) dL_agrees_438 rfl rfl ?_
          refine j_iload (pc' := 441) dL_agrees_439 rfl rfl ?_
          refine j_bipush (pc' := 443) (v := nI 14) dL_agrees_441 rfl rfl ?_
          refine j_cVi (pc' := 446) m_L_31 (p_point hD hV (by omega) (by omega) (a := v (176 + 56 * i + 14)) ((fPt_w hV.z h16 hi (show 14 < 15 from by omega)))) Kd (by decide) rfl rfl rfl ⟨Nat.le_of_ble_eq_true rfl, Nat.le_of_ble_eq_true rfl⟩ ⟨Nat.le_of_ble_eq_true rfl, Nat.le_of_ble_eq_true rfl⟩ (Nat.le_of_ble_eq_true rfl) dL_agrees_443 rfl (fun x1 J1 hq => ?_)
          obtain ⟨hx, hI⟩ := hq
          rw [hx, hI]
          refine jx_cut (B := jx_J E l cL_agrees 13 (some .boolean) RL false rmA 1 5 (fun v' n' kd' R' I' => v' = some (.int (nI 1)) ∧ LZ kd' R' I' d k T B) 1 5 n kd R I2 456 [some (.ref d), some (.int (nI k)), some (.ref a), some (.int ((cntF v 0 i) + (nI 1))), some (.int ((cntF v 6 i) + (nI 0))), some (.int ((cntF v 7 i) + (nI 1))), some (.int ((sm v i) + (v (176 + 56 * i + 14)))), some (.int (nI T)), some (.int (nI i)), some (.int (nI 0)), some (.int (nI 0)), some (.int (nI 0)), some (.int (nI 1))] []) (fun kk => ?_) ?_
          ·
            refine j_if_ne (pc' := 449) (tgt := 456) dL_agrees_446 rfl (by decide) (fun c446 => ?_) (fun c446 => ?_)
            ·
              exact kk
            ·
              exact absurd (hal c446) (by rw [h9, h10]; decide)
          ·
            refine j_iincN (pc' := 459) (lv' := [_, _, _, _, _, _, _, _, _, _, _, _, _]) dL_agrees_456 rfl rfl (by decide) rfl ?_
            refine j_goto (tgt := 25) dL_agrees_459 (by decide) ?_
            have e0 : cntF v 0 (i + 1) = cntF v 0 i + nI 1 := cnt_t (by rw [cC0]; exact hst)
            have e6 : cntF v 6 (i + 1) = cntF v 6 i + nI 0 := cnt_f (by rw [cC6]; exact decide_eq_false (fun z => z hsh))
            have e7 : cntF v 7 (i + 1) = cntF v 7 i + nI 1 := cnt_t (by rw [cC7]; exact decide_eq_true h10)
            refine j_eqLA e0 e6 e7 ?_
            exact ih (i + 1) I2 _ _ _ _ (by omega) (by omega) hD hA2
set_option maxRecDepth 100000 in
set_option maxHeartbeats 4000000 in
theorem ag_00_11 {E : jx_E} {l : Launch} {n : Nat} {kd : jx_K} {R : jx_R} {d : Nat} {v p : Nat → Int32} {q B k T S N : Nat} {i a : Nat} {I : jx_I} {y9 y10 y11 y12 : Option Value} (hV : VI v k T S N) (hN : N ≤ B) (hB : B + 100000 < 2147483000) (hP : PI v k T) (hi : i < k) (hka : kd a = (7, 5)) (hda : d + 344 ≤ a) (ih : ∀ (j : Nat) (I : jx_I) (y9 y10 y11 y12 : Option Value), i < j → j ≤ k → DK kd R I d v p q B → (∀ w, w < 5 → I a w = cntF v (w + 1) j) → jx_J E l cL_agrees 13 (some .boolean) RL false rmA 1 5 (fun v' n' kd' R' I' => v' = some (.int (nI 1)) ∧ LZ kd' R' I' d k T B) 1 5 n kd R I 25 [some (.ref d), some (.int (nI k)), some (.ref a), some (.int (cntF v 0 j)), some (.int (cntF v 6 j)), some (.int (cntF v 7 j)), some (.int (sm v j)), some (.int (nI T)), some (.int (nI j)), y9, y10, y11, y12] []) (hD : DK kd R I d v p q B) (hA : ∀ w, w < 5 → I a w = cntF v (w + 1) i) (h9 : v (176 + 56 * i + 9) = nI 0) (h10 : v (176 + 56 * i + 10) = nI 0) (hst : sStand v i = true) (hwf : WF v i 1) (hsh : ¬ v (176 + 56 * i + 13) ≤ 0) : jx_J E l cL_agrees 13 (some .boolean) RL false rmA 1 5 (fun v' n' kd' R' I' => v' = some (.int (nI 1)) ∧ LZ kd' R' I' d k T B) 1 5 n kd R I 25 [some (.ref d), some (.int (nI k)), some (.ref a), some (.int (cntF v 0 i)), some (.int (cntF v 6 i)), some (.int (cntF v 7 i)), some (.int (sm v i)), some (.int (nI T)), some (.int (nI i)), y9, y10, y11, y12] [] := by
  have h16 := hV.k16
  have Kd := hD.k5
  have hT := hV.tl
  obtain ⟨hp1, hp2⟩ := hP.1 i hi
  obtain ⟨⟨c, hc, e11⟩, aa, ll, haa, hll, e14, e12, hal0, hz⟩ := hp1
  have h14 : v (176 + 56 * i + 14) = 0 ↔ v (176 + 56 * i + 12) = 0 := by
    rw [e14, e12]
    have x1 := nI_eq (show aa < 2 ^ 31 from by omega) (show 0 < 2 ^ 31 from by omega)
    have x2 := nI_eq (show ll < 2 ^ 31 from by omega) (show 0 < 2 ^ 31 from by omega)
    exact x1.trans (hal0.trans x2.symm)
  have hal : v (176 + 56 * i + 14) = 0 → v (176 + 56 * i + 9) = nI 0 ∧ v (176 + 56 * i + 10) = nI 1 := fun z => hz ((nI_eq (show aa < 2 ^ 31 from by omega) (show 0 < 2 ^ 31 from by omega)).mp (e14.symm.trans z))
  have hgtT : ¬ v (176 + 56 * i + 13) = 0 → ¬ v (176 + 56 * i + 13) ≤ nI T := by
    intro z
    rcases hp2.2 with e | ⟨u, hu, hu2, e⟩
    · exact absurd e z
    · rw [e]; exact nI_ge hu (by omega)
  have hw0 := hwf.1
  refine j_iload (pc' := 27) dL_agrees_25 rfl rfl ?_
  refine j_iload_n (pc' := 28) dL_agrees_27 rfl rfl ?_
  refine j_icmpF_ge (pc' := 31) (tgt := 462) (nI_ge hi (by omega)) dL_agrees_28 (by decide) rfl ?_
  refine j_aload_n (pc' := 32) dL_agrees_31 rfl rfl ?_
  refine j_iload (pc' := 34) dL_agrees_32 rfl rfl ?_
  refine j_bipush (pc' := 36) (v := nI 15) dL_agrees_34 rfl rfl ?_
  refine j_cVi (pc' := 39) m_L_31 (p_point hD hV (by omega) (by omega) (a := nI 1) ((fPt_15 hV.z h16 hi).trans hw0)) Kd (by decide) rfl rfl rfl ⟨Nat.le_of_ble_eq_true rfl, Nat.le_of_ble_eq_true rfl⟩ ⟨Nat.le_of_ble_eq_true rfl, Nat.le_of_ble_eq_true rfl⟩ (Nat.le_of_ble_eq_true rfl) dL_agrees_36 rfl (fun x1 J1 hq => ?_)
  obtain ⟨hx, hI⟩ := hq
  rw [hx, hI]
  refine j_istore (pc' := 41) (lv' := [_, _, _, _, _, _, _, _, _, _, _, _, _]) dL_agrees_39 rfl (by decide) rfl ?_
  refine j_aload_n (pc' := 42) dL_agrees_41 rfl rfl ?_
  refine j_iload (pc' := 44) dL_agrees_42 rfl rfl ?_
  refine j_bipush (pc' := 46) (v := nI 9) dL_agrees_44 rfl rfl ?_
  refine j_cVi (pc' := 49) m_L_31 (p_point hD hV (by omega) (by omega) (a := nI 0) ((fPt_w hV.z h16 hi (show 9 < 15 from by omega)).trans (h9))) Kd (by decide) rfl rfl rfl ⟨Nat.le_of_ble_eq_true rfl, Nat.le_of_ble_eq_true rfl⟩ ⟨Nat.le_of_ble_eq_true rfl, Nat.le_of_ble_eq_true rfl⟩ (Nat.le_of_ble_eq_true rfl) dL_agrees_46 rfl (fun x1 J1 hq => ?_)
  obtain ⟨hx, hI⟩ := hq
  rw [hx, hI]
  refine j_iconst (pc' := 50) (v := nI 1) dL_agrees_49 rfl rfl ?_
  refine j_icmpT_ne (tgt := 57) (by decide) dL_agrees_50 (by decide) ?_
  refine j_iconst (pc' := 58) (v := nI 0) dL_agrees_57 rfl rfl ?_
  refine j_istore (pc' := 60) (lv' := [_, _, _, _, _, _, _, _, _, _, _, _, _]) dL_agrees_58 rfl (by decide) rfl ?_
  refine j_aload_n (pc' := 61) dL_agrees_60 rfl rfl ?_
  refine j_iload (pc' := 63) dL_agrees_61 rfl rfl ?_
  refine j_bipush (pc' := 65) (v := nI 10) dL_agrees_63 rfl rfl ?_
  refine j_cVi (pc' := 68) m_L_31 (p_point hD hV (by omega) (by omega) (a := nI 0) ((fPt_w hV.z h16 hi (show 10 < 15 from by omega)).trans (h10))) Kd (by decide) rfl rfl rfl ⟨Nat.le_of_ble_eq_true rfl, Nat.le_of_ble_eq_true rfl⟩ ⟨Nat.le_of_ble_eq_true rfl, Nat.le_of_ble_eq_true rfl⟩ (Nat.le_of_ble_eq_true rfl) dL_agrees_65 rfl (fun x1 J1 hq => ?_)
  obtain ⟨hx, hI⟩ := hq
  rw [hx, hI]
  refine j_iconst (pc' := 69) (v := nI 1) dL_agrees_68 rfl rfl ?_
  refine j_icmpT_ne (tgt := 76) (by decide) dL_agrees_69 (by decide) ?_
  refine j_iconst (pc' := 77) (v := nI 0) dL_agrees_76 rfl rfl ?_
  refine j_istore (pc' := 79) (lv' := [_, _, _, _, _, _, _, _, _, _, _, _, _]) dL_agrees_77 rfl (by decide) rfl ?_
  refine j_iload (pc' := 81) dL_agrees_79 rfl rfl ?_
  refine j_ifF_ne (pc' := 84) (tgt := 89) (by decide) dL_agrees_81 (by decide) rfl ?_
  refine j_iload (pc' := 86) dL_agrees_84 rfl rfl ?_
  refine j_ifF_ne (pc' := 89) (tgt := 93) (by decide) dL_agrees_86 (by decide) rfl ?_
  refine j_iconst (pc' := 90) (v := nI 1) dL_agrees_89 rfl rfl ?_
  refine j_goto (tgt := 94) dL_agrees_90 (by decide) ?_
  refine j_istore (pc' := 96) (lv' := [_, _, _, _, _, _, _, _, _, _, _, _, _]) dL_agrees_94 rfl (by decide) rfl ?_
  refine j_iload_n (pc' := 97) dL_agrees_96 rfl rfl ?_
  refine j_iload (pc' := 99) dL_agrees_97 rfl rfl ?_
  refine j_ifF_eq (pc' := 102) (tgt := 106) (by decide) dL_agrees_99 (by decide) rfl ?_
  refine j_iconst (pc' := 103) (v := nI 1) dL_agrees_102 rfl rfl ?_
  refine j_goto (tgt := 107) dL_agrees_103 (by decide) ?_
  refine j_iadd (pc' := 108) dL_agrees_107 rfl ?_
  refine j_istore_n (pc' := 109) (lv' := [_, _, _, _, _, _, _, _, _, _, _, _, _]) dL_agrees_108 rfl (by decide) rfl ?_
  refine j_iload (pc' := 111) dL_agrees_109 rfl rfl ?_
  refine j_aload_n (pc' := 112) dL_agrees_111 rfl rfl ?_
  refine j_iload (pc' := 114) dL_agrees_112 rfl rfl ?_
  refine j_bipush (pc' := 116) (v := nI 13) dL_agrees_114 rfl rfl ?_
  refine j_cVi (pc' := 119) m_L_31 (p_point hD hV (by omega) (by omega) (a := v (176 + 56 * i + 13)) ((fPt_w hV.z h16 hi (show 13 < 15 from by omega)))) Kd (by decide) rfl rfl rfl ⟨Nat.le_of_ble_eq_true rfl, Nat.le_of_ble_eq_true rfl⟩ ⟨Nat.le_of_ble_eq_true rfl, Nat.le_of_ble_eq_true rfl⟩ (Nat.le_of_ble_eq_true rfl) dL_agrees_116 rfl (fun x1 J1 hq => ?_)
  obtain ⟨hx, hI⟩ := hq
  rw [hx, hI]
  refine j_ifF_le (pc' := 122) (tgt := 126) (hsh) dL_agrees_119 (by decide) rfl ?_
  refine j_iconst (pc' := 123) (v := nI 1) dL_agrees_122 rfl rfl ?_
  refine j_goto (tgt := 127) dL_agrees_123 (by decide) ?_
  refine j_iadd (pc' := 128) dL_agrees_127 rfl ?_
  refine j_istore (pc' := 130) (lv' := [_, _, _, _, _, _, _, _, _, _, _, _, _]) dL_agrees_128 rfl (by decide) rfl ?_
  refine j_iload (pc' := 132) dL_agrees_130 rfl rfl ?_
  refine j_iload (pc' := 134) dL_agrees_132 rfl rfl ?_
  refine j_ifT_eq (tgt := 141) (by decide) dL_agrees_134 (by decide) ?_
  refine j_iconst (pc' := 142) (v := nI 1) dL_agrees_141 rfl rfl ?_
  refine j_iadd (pc' := 143) dL_agrees_142 rfl ?_
  refine j_istore (pc' := 145) (lv' := [_, _, _, _, _, _, _, _, _, _, _, _, _]) dL_agrees_143 rfl (by decide) rfl ?_
  refine j_iload (pc' := 147) dL_agrees_145 rfl rfl ?_
  refine j_aload_n (pc' := 148) dL_agrees_147 rfl rfl ?_
  refine j_iload (pc' := 150) dL_agrees_148 rfl rfl ?_
  refine j_bipush (pc' := 152) (v := nI 14) dL_agrees_150 rfl rfl ?_
  refine j_cVi (pc' := 155) m_L_31 (p_point hD hV (by omega) (by omega) (a := v (176 + 56 * i + 14)) ((fPt_w hV.z h16 hi (show 14 < 15 from by omega)))) Kd (by decide) rfl rfl rfl ⟨Nat.le_of_ble_eq_true rfl, Nat.le_of_ble_eq_true rfl⟩ ⟨Nat.le_of_ble_eq_true rfl, Nat.le_of_ble_eq_true rfl⟩ (Nat.le_of_ble_eq_true rfl) dL_agrees_152 rfl (fun x1 J1 hq => ?_)
  obtain ⟨hx, hI⟩ := hq
  rw [hx, hI]
  refine j_iadd (pc' := 156) dL_agrees_155 rfl ?_
  refine j_istore (pc' := 158) (lv' := [_, _, _, _, _, _, _, _, _, _, _, _, _]) dL_agrees_156 rfl (by decide) rfl ?_
  refine j_iload (pc' := 160) dL_agrees_158 rfl rfl ?_
  refine j_ifF_eq (pc' := 163) (tgt := 177) (by decide) dL_agrees_160 (by decide) rfl ?_
  refine j_iload (pc' := 165) dL_agrees_163 rfl rfl ?_
  refine j_ifF_lt (pc' := 168) (tgt := 185) (by decide) dL_agrees_165 (by decide) rfl ?_
  refine j_iload (pc' := 170) dL_agrees_168 rfl rfl ?_
  refine j_iconst (pc' := 171) (v := nI 4) dL_agrees_170 rfl rfl ?_
  refine j_icmpT_le (tgt := 187) (by decide) dL_agrees_171 (by decide) ?_
  refine j_aload_n (pc' := 188) dL_agrees_187 rfl rfl ?_
  refine j_iload (pc' := 190) dL_agrees_188 rfl rfl ?_
  refine j_ifT_ge (tgt := 197) (by decide) dL_agrees_190 (by decide) ?_
  refine j_iload (pc' := 199) dL_agrees_197 rfl rfl ?_
  refine j_dup2 (pc' := 200) dL_agrees_199 rfl rfl rfl ?_
  refine j_ialdv (pc' := 201) hka rfl (by decide) (by decide) (hA _ (by decide)) dL_agrees_200 rfl ?_
  refine j_iload (pc' := 203) dL_agrees_201 rfl rfl ?_
  refine j_ifF_eq (pc' := 206) (tgt := 210) (by decide) dL_agrees_203 (by decide) rfl ?_
  refine j_iconst (pc' := 207) (v := nI 1) dL_agrees_206 rfl rfl ?_
  refine j_goto (tgt := 211) dL_agrees_207 (by decide) ?_
  refine j_iadd (pc' := 212) dL_agrees_211 rfl ?_
  refine j_iast (pc' := 213) hka rfl (by decide) (by decide) dL_agrees_212 rfl ?_
  have hD2 := hD.upA (j := 1) (x := cntF v 2 i + nI 1) hda
  have hA2 := why_up (a := a) (by decide) hw0 hA
  change jx_J E l cL_agrees 13 (some .boolean) RL false rmA 1 5 (fun v' n' kd' R' I' => v' = some (.int (nI 1)) ∧ LZ kd' R' I' d k T B) 1 5 n kd R (jx_up I a 1 (cntF v 2 i + nI 1)) 213 _ _
  generalize jx_up I a 1 (cntF v 2 i + nI 1) = I2 at hD2 hA2 ⊢
  have hD := hD2
  refine j_aload_n (pc' := 214) dL_agrees_213 rfl rfl ?_
  refine j_iload (pc' := 216) dL_agrees_214 rfl rfl ?_
  refine j_iconst (pc' := 217) (v := nI 5) dL_agrees_216 rfl rfl ?_
  refine j_cVi (pc' := 220) m_L_31 (p_point hD hV (by omega) (by omega) (a := v (176 + 56 * i + 5)) ((fPt_w hV.z h16 hi (show 5 < 15 from by omega)))) Kd (by decide) rfl rfl rfl ⟨Nat.le_of_ble_eq_true rfl, Nat.le_of_ble_eq_true rfl⟩ ⟨Nat.le_of_ble_eq_true rfl, Nat.le_of_ble_eq_true rfl⟩ (Nat.le_of_ble_eq_true rfl) dL_agrees_217 rfl (fun x1 J1 hq => ?_)
  obtain ⟨hx, hI⟩ := hq
  rw [hx, hI]
  refine j_iconst (pc' := 221) (v := nI 1) dL_agrees_220 rfl rfl ?_
  refine j_icmpT_ne (tgt := 240) (fun z => hsh (by rw [hp2.1 z]; decide)) dL_agrees_221 (by decide) ?_
  refine j_aload_n (pc' := 241) dL_agrees_240 rfl rfl ?_
  refine j_iload (pc' := 243) dL_agrees_241 rfl rfl ?_
  refine j_bipush (pc' := 245) (v := nI 13) dL_agrees_243 rfl rfl ?_
  refine j_cVi (pc' := 248) m_L_31 (p_point hD hV (by omega) (by omega) (a := v (176 + 56 * i + 13)) ((fPt_w hV.z h16 hi (show 13 < 15 from by omega)))) Kd (by decide) rfl rfl rfl ⟨Nat.le_of_ble_eq_true rfl, Nat.le_of_ble_eq_true rfl⟩ ⟨Nat.le_of_ble_eq_true rfl, Nat.le_of_ble_eq_true rfl⟩ (Nat.le_of_ble_eq_true rfl) dL_agrees_245 rfl (fun x1 J1 hq => ?_)
  obtain ⟨hx, hI⟩ := hq
  rw [hx, hI]
  refine jx_cut (B := jx_J E l cL_agrees 13 (some .boolean) RL false rmA 1 5 (fun v' n' kd' R' I' => v' = some (.int (nI 1)) ∧ LZ kd' R' I' d k T B) 1 5 n kd R I2 264 [some (.ref d), some (.int (nI k)), some (.ref a), some (.int ((cntF v 0 i) + (nI 1))), some (.int ((cntF v 6 i) + (nI 1))), some (.int ((cntF v 7 i) + (nI 1))), some (.int ((sm v i) + (v (176 + 56 * i + 14)))), some (.int (nI T)), some (.int (nI i)), some (.int (nI 1)), some (.int (nI 0)), some (.int (nI 0)), some (.int (nI 1))] []) (fun kk => ?_) ?_
  ·
    refine j_if_eq (pc' := 251) (tgt := 264) dL_agrees_248 rfl (by decide) (fun c248 => ?_) (fun c248 => ?_)
    ·
      exact kk
    ·
      refine j_aload_n (pc' := 252) dL_agrees_251 rfl rfl ?_
      refine j_iload (pc' := 254) dL_agrees_252 rfl rfl ?_
      refine j_bipush (pc' := 256) (v := nI 13) dL_agrees_254 rfl rfl ?_
      refine j_cVi (pc' := 259) m_L_31 (p_point hD hV (by omega) (by omega) (a := v (176 + 56 * i + 13)) ((fPt_w hV.z h16 hi (show 13 < 15 from by omega)))) Kd (by decide) rfl rfl rfl ⟨Nat.le_of_ble_eq_true rfl, Nat.le_of_ble_eq_true rfl⟩ ⟨Nat.le_of_ble_eq_true rfl, Nat.le_of_ble_eq_true rfl⟩ (Nat.le_of_ble_eq_true rfl) dL_agrees_256 rfl (fun x1 J1 hq => ?_)
      obtain ⟨hx, hI⟩ := hq
      rw [hx, hI]
      refine j_iload (pc' := 261) dL_agrees_259 rfl rfl ?_
      refine j_icmpF_le (pc' := 264) (tgt := 348) (hgtT c248) dL_agrees_261 (by decide) rfl ?_
      exact kk
  ·
    refine j_iload (pc' := 266) dL_agrees_264 rfl rfl ?_
    refine j_iconst (pc' := 267) (v := nI 1) dL_agrees_266 rfl rfl ?_
    refine j_icmpF_ne (pc' := 270) (tgt := 281) (by decide) dL_agrees_267 (by decide) rfl ?_
    refine j_aload_n (pc' := 271) dL_agrees_270 rfl rfl ?_
    refine j_iload (pc' := 273) dL_agrees_271 rfl rfl ?_
    refine j_bipush (pc' := 275) (v := nI 13) dL_agrees_273 rfl rfl ?_
    refine j_cVi (pc' := 278) m_L_31 (p_point hD hV (by omega) (by omega) (a := v (176 + 56 * i + 13)) ((fPt_w hV.z h16 hi (show 13 < 15 from by omega)))) Kd (by decide) rfl rfl rfl ⟨Nat.le_of_ble_eq_true rfl, Nat.le_of_ble_eq_true rfl⟩ ⟨Nat.le_of_ble_eq_true rfl, Nat.le_of_ble_eq_true rfl⟩ (Nat.le_of_ble_eq_true rfl) dL_agrees_275 rfl (fun x1 J1 hq => ?_)
    obtain ⟨hx, hI⟩ := hq
    rw [hx, hI]
    refine j_ifF_eq (pc' := 281) (tgt := 348) (fun z => hsh (by rw [z]; decide)) dL_agrees_278 (by decide) rfl ?_
    refine j_iload (pc' := 283) dL_agrees_281 rfl rfl ?_
    refine j_iconst (pc' := 284) (v := nI 2) dL_agrees_283 rfl rfl ?_
    refine j_icmpT_ne (tgt := 306) (by decide) dL_agrees_284 (by decide) ?_
    refine j_iload (pc' := 308) dL_agrees_306 rfl rfl ?_
    refine j_iconst (pc' := 309) (v := nI 3) dL_agrees_308 rfl rfl ?_
    refine j_icmpT_ne (tgt := 323) (by decide) dL_agrees_309 (by decide) ?_
    refine j_iload (pc' := 325) dL_agrees_323 rfl rfl ?_
    refine j_iconst (pc' := 326) (v := nI 4) dL_agrees_325 rfl rfl ?_
    refine j_icmpT_ne (tgt := 350) (by decide) dL_agrees_326 (by decide) ?_
    refine j_aload_n (pc' := 351) dL_agrees_350 rfl rfl ?_
    refine j_iload (pc' := 353) dL_agrees_351 rfl rfl ?_
    refine j_bipush (pc' := 355) (v := nI 11) dL_agrees_353 rfl rfl ?_
    refine j_cVi (pc' := 358) m_L_31 (p_point hD hV (by omega) (by omega) (a := v (176 + 56 * i + 11)) ((fPt_w hV.z h16 hi (show 11 < 15 from by omega)))) Kd (by decide) rfl rfl rfl ⟨Nat.le_of_ble_eq_true rfl, Nat.le_of_ble_eq_true rfl⟩ ⟨Nat.le_of_ble_eq_true rfl, Nat.le_of_ble_eq_true rfl⟩ (Nat.le_of_ble_eq_true rfl) dL_agrees_355 rfl (fun x1 J1 hq => ?_)
    obtain ⟨hx, hI⟩ := hq
    rw [hx, hI]
    refine j_aload_n (pc' := 359) dL_agrees_358 rfl rfl ?_
    refine j_iload (pc' := 361) dL_agrees_359 rfl rfl ?_
    refine j_iload (pc' := 363) dL_agrees_361 rfl rfl ?_
    refine j_ifT_eq (tgt := 370) (by decide) dL_agrees_363 (by decide) ?_
    refine j_iconst (pc' := 371) (v := nI 3) dL_agrees_370 rfl rfl ?_
    refine j_cVi (pc' := 374) m_L_31 (p_point hD hV (by omega) (by omega) (a := v (176 + 56 * i + 3)) ((fPt_w hV.z h16 hi (show 3 < 15 from by omega)))) Kd (by decide) rfl rfl rfl ⟨Nat.le_of_ble_eq_true rfl, Nat.le_of_ble_eq_true rfl⟩ ⟨Nat.le_of_ble_eq_true rfl, Nat.le_of_ble_eq_true rfl⟩ (Nat.le_of_ble_eq_true rfl) dL_agrees_371 rfl (fun x1 J1 hq => ?_)
    obtain ⟨hx, hI⟩ := hq
    rw [hx, hI]
    refine jx_cut (B := jx_J E l cL_agrees 13 (some .boolean) RL false rmA 1 5 (fun v' n' kd' R' I' => v' = some (.int (nI 1)) ∧ LZ kd' R' I' d k T B) 1 5 n kd R I2 390 [some (.ref d), some (.int (nI k)), some (.ref a), some (.int ((cntF v 0 i) + (nI 1))), some (.int ((cntF v 6 i) + (nI 1))), some (.int ((cntF v 7 i) + (nI 1))), some (.int ((sm v i) + (v (176 + 56 * i + 14)))), some (.int (nI T)), some (.int (nI i)), some (.int (nI 1)), some (.int (nI 0)), some (.int (nI 0)), some (.int (nI 1))] []) (fun kk => ?_) ?_
    ·
      refine j_icmp_le (pc' := 377) (tgt := 390) dL_agrees_374 rfl (by decide) (fun c374 => ?_) (fun c374 => ?_)
      ·
        exact kk
      ·
        refine j_aload_n (pc' := 378) dL_agrees_377 rfl rfl ?_
        refine j_iload (pc' := 380) dL_agrees_378 rfl rfl ?_
        refine j_bipush (pc' := 382) (v := nI 11) dL_agrees_380 rfl rfl ?_
        refine j_cVi (pc' := 385) m_L_31 (p_point hD hV (by omega) (by omega) (a := nI c) ((fPt_w hV.z h16 hi (show 11 < 15 from by omega)).trans (e11))) Kd (by decide) rfl rfl rfl ⟨Nat.le_of_ble_eq_true rfl, Nat.le_of_ble_eq_true rfl⟩ ⟨Nat.le_of_ble_eq_true rfl, Nat.le_of_ble_eq_true rfl⟩ (Nat.le_of_ble_eq_true rfl) dL_agrees_382 rfl (fun x1 J1 hq => ?_)
        obtain ⟨hx, hI⟩ := hq
        rw [hx, hI]
        refine j_bipush (pc' := 387) (v := nI 20) dL_agrees_385 rfl rfl ?_
        refine j_icmpF_gt (pc' := 390) (tgt := 454) (nI_nlt (by omega) (by omega)) dL_agrees_387 (by decide) rfl ?_
        exact kk
    ·
      refine j_aload_n (pc' := 391) dL_agrees_390 rfl rfl ?_
      refine j_iload (pc' := 393) dL_agrees_391 rfl rfl ?_
      refine j_bipush (pc' := 395) (v := nI 12) dL_agrees_393 rfl rfl ?_
      refine j_cVi (pc' := 398) m_L_31 (p_point hD hV (by omega) (by omega) (a := nI ll) ((fPt_w hV.z h16 hi (show 12 < 15 from by omega)).trans (e12))) Kd (by decide) rfl rfl rfl ⟨Nat.le_of_ble_eq_true rfl, Nat.le_of_ble_eq_true rfl⟩ ⟨Nat.le_of_ble_eq_true rfl, Nat.le_of_ble_eq_true rfl⟩ (Nat.le_of_ble_eq_true rfl) dL_agrees_395 rfl (fun x1 J1 hq => ?_)
      obtain ⟨hx, hI⟩ := hq
      rw [hx, hI]
      refine j_iload (pc' := 400) dL_agrees_398 rfl rfl ?_
      refine j_icmpF_gt (pc' := 403) (tgt := 454) (nI_nlt (by omega) (by omega)) dL_agrees_400 (by decide) rfl ?_
      refine j_aload_n (pc' := 404) dL_agrees_403 rfl rfl ?_
      refine j_iload (pc' := 406) dL_agrees_404 rfl rfl ?_
      refine j_bipush (pc' := 408) (v := nI 14) dL_agrees_406 rfl rfl ?_
      refine j_cVi (pc' := 411) m_L_31 (p_point hD hV (by omega) (by omega) (a := v (176 + 56 * i + 14)) ((fPt_w hV.z h16 hi (show 14 < 15 from by omega)))) Kd (by decide) rfl rfl rfl ⟨Nat.le_of_ble_eq_true rfl, Nat.le_of_ble_eq_true rfl⟩ ⟨Nat.le_of_ble_eq_true rfl, Nat.le_of_ble_eq_true rfl⟩ (Nat.le_of_ble_eq_true rfl) dL_agrees_408 rfl (fun x1 J1 hq => ?_)
      obtain ⟨hx, hI⟩ := hq
      rw [hx, hI]
      refine jx_cut (B := jx_J E l cL_agrees 13 (some .boolean) RL false rmA 1 5 (fun v' n' kd' R' I' => v' = some (.int (nI 1)) ∧ LZ kd' R' I' d k T B) 1 5 n kd R I2 438 [some (.ref d), some (.int (nI k)), some (.ref a), some (.int ((cntF v 0 i) + (nI 1))), some (.int ((cntF v 6 i) + (nI 1))), some (.int ((cntF v 7 i) + (nI 1))), some (.int ((sm v i) + (v (176 + 56 * i + 14)))), some (.int (nI T)), some (.int (nI i)), some (.int (nI 1)), some (.int (nI 0)), some (.int (nI 0)), some (.int (nI 1))] []) (fun kk => ?_) ?_
      ·
        refine j_if_ne (pc' := 414) (tgt := 418) dL_agrees_411 rfl (by decide) (fun c411 => ?_) (fun c411 => ?_)
        ·
          refine j_iconst (pc' := 419) (v := nI 0) dL_agrees_418 rfl rfl ?_
          refine j_aload_n (pc' := 420) dL_agrees_419 rfl rfl ?_
          refine j_iload (pc' := 422) dL_agrees_420 rfl rfl ?_
          refine j_bipush (pc' := 424) (v := nI 12) dL_agrees_422 rfl rfl ?_
          refine j_cVi (pc' := 427) m_L_31 (p_point hD hV (by omega) (by omega) (a := v (176 + 56 * i + 12)) ((fPt_w hV.z h16 hi (show 12 < 15 from by omega)))) Kd (by decide) rfl rfl rfl ⟨Nat.le_of_ble_eq_true rfl, Nat.le_of_ble_eq_true rfl⟩ ⟨Nat.le_of_ble_eq_true rfl, Nat.le_of_ble_eq_true rfl⟩ (Nat.le_of_ble_eq_true rfl) dL_agrees_424 rfl (fun x1 J1 hq => ?_)
          obtain ⟨hx, hI⟩ := hq
          rw [hx, hI]
          refine j_ifT_ne (tgt := 434) (fun z => c411 (h14.mpr z)) dL_agrees_427 (by decide) ?_
          refine j_iconst (pc' := 435) (v := nI 0) dL_agrees_434 rfl rfl ?_
          refine j_icmpF_ne (pc' := 438) (tgt := 454) (by decide) dL_agrees_435 (by decide) rfl ?_
          exact kk
        ·
          refine j_iconst (pc' := 415) (v := nI 1) dL_agrees_414 rfl rfl ?_
          refine j_goto (tgt := 419) dL_agrees_415 (by decide) ?_
          refine j_aload_n (pc' := 420) dL_agrees_419 rfl rfl ?_
          refine j_iload (pc' := 422) dL_agrees_420 rfl rfl ?_
          refine j_bipush (pc' := 424) (v := nI 12) dL_agrees_422 rfl rfl ?_
          refine j_cVi (pc' := 427) m_L_31 (p_point hD hV (by omega) (by omega) (a := v (176 + 56 * i + 12)) ((fPt_w hV.z h16 hi (show 12 < 15 from by omega)))) Kd (by decide) rfl rfl rfl ⟨Nat.le_of_ble_eq_true rfl, Nat.le_of_ble_eq_true rfl⟩ ⟨Nat.le_of_ble_eq_true rfl, Nat.le_of_ble_eq_true rfl⟩ (Nat.le_of_ble_eq_true rfl) dL_agrees_424 rfl (fun x1 J1 hq => ?_)
          obtain ⟨hx, hI⟩ := hq
          rw [hx, hI]
          refine j_ifF_ne (pc' := 430) (tgt := 434) (h14.mp c411) dL_agrees_427 (by decide) rfl ?_
          refine j_iconst (pc' := 431) (v := nI 1) dL_agrees_430 rfl rfl ?_
          refine j_goto (tgt := 435) dL_agrees_431 (by decide) ?_
          refine j_icmpF_ne (pc' := 438) (tgt := 454) (by decide) dL_agrees_435 (by decide) rfl ?_
          exact kk
      ·
        refine j_aload_n (pc' := 439) dL_agrees_438 rfl rfl ?_
        refine j_iload (pc' := 441) dL_agrees_439 rfl rfl ?_
        refine j_bipush (pc' := 443) (v := nI 14) dL_agrees_441 rfl rfl ?_
        refine j_cVi (pc' := 446) m_L_31 (p_point hD hV (by omega) (by omega) (a := v (176 + 56 * i + 14)) ((fPt_w hV.z h16 hi (show 14 < 15 from by omega)))) Kd (by decide) rfl rfl rfl ⟨Nat.le_of_ble_eq_true rfl, Nat.le_of_ble_eq_true rfl⟩ ⟨Nat.le_of_ble_eq_true rfl, Nat.le_of_ble_eq_true rfl⟩ (Nat.le_of_ble_eq_true rfl) dL_agrees_443 rfl (fun x1 J1 hq => ?_)
        obtain ⟨hx, hI⟩ := hq
        rw [hx, hI]
        refine jx_cut (B := jx_J E l cL_agrees 13 (some .boolean) RL false rmA 1 5 (fun v' n' kd' R' I' => v' = some (.int (nI 1)) ∧ LZ kd' R' I' d k T B) 1 5 n kd R I2 456 [some (.ref d), some (.int (nI k)), some (.ref a), some (.int ((cntF v 0 i) + (nI 1))), some (.int ((cntF v 6 i) + (nI 1))), some (.int ((cntF v 7 i) + (nI 1))), some (.int ((sm v i) + (v (176 + 56 * i + 14)))), some (.int (nI T)), some (.int (nI i)), some (.int (nI 1)), some (.int (nI 0)), some (.int (nI 0)), some (.int (nI 1))] []) (fun kk => ?_) ?_
        ·
          refine j_if_ne (pc' := 449) (tgt := 456) dL_agrees_446 rfl (by decide) (fun c446 => ?_) (fun c446 => ?_)
          ·
            exact kk
          ·
            exact absurd (hal c446) (by rw [h9, h10]; decide)
        ·
          refine j_iincN (pc' := 459) (lv' := [_, _, _, _, _, _, _, _, _, _, _, _, _]) dL_agrees_456 rfl rfl (by decide) rfl ?_
          refine j_goto (tgt := 25) dL_agrees_459 (by decide) ?_
          have e0 : cntF v 0 (i + 1) = cntF v 0 i + nI 1 := cnt_t (by rw [cC0]; exact hst)
          have e6 : cntF v 6 (i + 1) = cntF v 6 i + nI 1 := cnt_t (by rw [cC6]; exact decide_eq_true hsh)
          have e7 : cntF v 7 (i + 1) = cntF v 7 i + nI 1 := cnt_t (by rw [cC7]; exact decide_eq_true h10)
          refine j_eqLA e0 e6 e7 ?_
          exact ih (i + 1) I2 _ _ _ _ (by omega) (by omega) hD hA2
set_option maxRecDepth 100000 in
set_option maxHeartbeats 4000000 in
theorem ag_00_20 {E : jx_E} {l : Launch} {n : Nat} {kd : jx_K} {R : jx_R} {d : Nat} {v p : Nat → Int32} {q B k T S N : Nat} {i a : Nat} {I : jx_I} {y9 y10 y11 y12 : Option Value} (hV : VI v k T S N) (hN : N ≤ B) (hB : B + 100000 < 2147483000) (hP : PI v k T) (hi : i < k) (hka : kd a = (7, 5)) (hda : d + 344 ≤ a) (ih : ∀ (j : Nat) (I : jx_I) (y9 y10 y11 y12 : Option Value), i < j → j ≤ k → DK kd R I d v p q B → (∀ w, w < 5 → I a w = cntF v (w + 1) j) → jx_J E l cL_agrees 13 (some .boolean) RL false rmA 1 5 (fun v' n' kd' R' I' => v' = some (.int (nI 1)) ∧ LZ kd' R' I' d k T B) 1 5 n kd R I 25 [some (.ref d), some (.int (nI k)), some (.ref a), some (.int (cntF v 0 j)), some (.int (cntF v 6 j)), some (.int (cntF v 7 j)), some (.int (sm v j)), some (.int (nI T)), some (.int (nI j)), y9, y10, y11, y12] []) (hD : DK kd R I d v p q B) (hA : ∀ w, w < 5 → I a w = cntF v (w + 1) i) (h9 : v (176 + 56 * i + 9) = nI 0) (h10 : v (176 + 56 * i + 10) = nI 0) (hst : sStand v i = true) (hwf : WF v i 2) (hsh : v (176 + 56 * i + 13) ≤ 0) : jx_J E l cL_agrees 13 (some .boolean) RL false rmA 1 5 (fun v' n' kd' R' I' => v' = some (.int (nI 1)) ∧ LZ kd' R' I' d k T B) 1 5 n kd R I 25 [some (.ref d), some (.int (nI k)), some (.ref a), some (.int (cntF v 0 i)), some (.int (cntF v 6 i)), some (.int (cntF v 7 i)), some (.int (sm v i)), some (.int (nI T)), some (.int (nI i)), y9, y10, y11, y12] [] := by
  have h16 := hV.k16
  have Kd := hD.k5
  have hT := hV.tl
  obtain ⟨hp1, hp2⟩ := hP.1 i hi
  obtain ⟨⟨c, hc, e11⟩, aa, ll, haa, hll, e14, e12, hal0, hz⟩ := hp1
  have h14 : v (176 + 56 * i + 14) = 0 ↔ v (176 + 56 * i + 12) = 0 := by
    rw [e14, e12]
    have x1 := nI_eq (show aa < 2 ^ 31 from by omega) (show 0 < 2 ^ 31 from by omega)
    have x2 := nI_eq (show ll < 2 ^ 31 from by omega) (show 0 < 2 ^ 31 from by omega)
    exact x1.trans (hal0.trans x2.symm)
  have hal : v (176 + 56 * i + 14) = 0 → v (176 + 56 * i + 9) = nI 0 ∧ v (176 + 56 * i + 10) = nI 1 := fun z => hz ((nI_eq (show aa < 2 ^ 31 from by omega) (show 0 < 2 ^ 31 from by omega)).mp (e14.symm.trans z))
  have hgtT : ¬ v (176 + 56 * i + 13) = 0 → ¬ v (176 + 56 * i + 13) ≤ nI T := by
    intro z
    rcases hp2.2 with e | ⟨u, hu, hu2, e⟩
    · exact absurd e z
    · rw [e]; exact nI_ge hu (by omega)
  have hw0 := hwf.1
  refine j_iload (pc' := 27) dL_agrees_25 rfl rfl ?_
  refine j_iload_n (pc' := 28) dL_agrees_27 rfl rfl ?_
  refine j_icmpF_ge (pc' := 31) (tgt := 462) (nI_ge hi (by omega)) dL_agrees_28 (by decide) rfl ?_
  refine j_aload_n (pc' := 32) dL_agrees_31 rfl rfl ?_
  refine j_iload (pc' := 34) dL_agrees_32 rfl rfl ?_
  refine j_bipush (pc' := 36) (v := nI 15) dL_agrees_34 rfl rfl ?_
  refine j_cVi (pc' := 39) m_L_31 (p_point hD hV (by omega) (by omega) (a := nI 2) ((fPt_15 hV.z h16 hi).trans hw0)) Kd (by decide) rfl rfl rfl ⟨Nat.le_of_ble_eq_true rfl, Nat.le_of_ble_eq_true rfl⟩ ⟨Nat.le_of_ble_eq_true rfl, Nat.le_of_ble_eq_true rfl⟩ (Nat.le_of_ble_eq_true rfl) dL_agrees_36 rfl (fun x1 J1 hq => ?_)
  obtain ⟨hx, hI⟩ := hq
  rw [hx, hI]
  refine j_istore (pc' := 41) (lv' := [_, _, _, _, _, _, _, _, _, _, _, _, _]) dL_agrees_39 rfl (by decide) rfl ?_
  refine j_aload_n (pc' := 42) dL_agrees_41 rfl rfl ?_
  refine j_iload (pc' := 44) dL_agrees_42 rfl rfl ?_
  refine j_bipush (pc' := 46) (v := nI 9) dL_agrees_44 rfl rfl ?_
  refine j_cVi (pc' := 49) m_L_31 (p_point hD hV (by omega) (by omega) (a := nI 0) ((fPt_w hV.z h16 hi (show 9 < 15 from by omega)).trans (h9))) Kd (by decide) rfl rfl rfl ⟨Nat.le_of_ble_eq_true rfl, Nat.le_of_ble_eq_true rfl⟩ ⟨Nat.le_of_ble_eq_true rfl, Nat.le_of_ble_eq_true rfl⟩ (Nat.le_of_ble_eq_true rfl) dL_agrees_46 rfl (fun x1 J1 hq => ?_)
  obtain ⟨hx, hI⟩ := hq
  rw [hx, hI]
  refine j_iconst (pc' := 50) (v := nI 1) dL_agrees_49 rfl rfl ?_
  refine j_icmpT_ne (tgt := 57) (by decide) dL_agrees_50 (by decide) ?_
  refine j_iconst (pc' := 58) (v := nI 0) dL_agrees_57 rfl rfl ?_
  refine j_istore (pc' := 60) (lv' := [_, _, _, _, _, _, _, _, _, _, _, _, _]) dL_agrees_58 rfl (by decide) rfl ?_
  refine j_aload_n (pc' := 61) dL_agrees_60 rfl rfl ?_
  refine j_iload (pc' := 63) dL_agrees_61 rfl rfl ?_
  refine j_bipush (pc' := 65) (v := nI 10) dL_agrees_63 rfl rfl ?_
  refine j_cVi (pc' := 68) m_L_31 (p_point hD hV (by omega) (by omega) (a := nI 0) ((fPt_w hV.z h16 hi (show 10 < 15 from by omega)).trans (h10))) Kd (by decide) rfl rfl rfl ⟨Nat.le_of_ble_eq_true rfl, Nat.le_of_ble_eq_true rfl⟩ ⟨Nat.le_of_ble_eq_true rfl, Nat.le_of_ble_eq_true rfl⟩ (Nat.le_of_ble_eq_true rfl) dL_agrees_65 rfl (fun x1 J1 hq => ?_)
  obtain ⟨hx, hI⟩ := hq
  rw [hx, hI]
  refine j_iconst (pc' := 69) (v := nI 1) dL_agrees_68 rfl rfl ?_
  refine j_icmpT_ne (tgt := 76) (by decide) dL_agrees_69 (by decide) ?_
  refine j_iconst (pc' := 77) (v := nI 0) dL_agrees_76 rfl rfl ?_
  refine j_istore (pc' := 79) (lv' := [_, _, _, _, _, _, _, _, _, _, _, _, _]) dL_agrees_77 rfl (by decide) rfl ?_
  refine j_iload (pc' := 81) dL_agrees_79 rfl rfl ?_
  refine j_ifF_ne (pc' := 84) (tgt := 89) (by decide) dL_agrees_81 (by decide) rfl ?_
  refine j_iload (pc' := 86) dL_agrees_84 rfl rfl ?_
  refine j_ifF_ne (pc' := 89) (tgt := 93) (by decide) dL_agrees_86 (by decide) rfl ?_
  refine j_iconst (pc' := 90) (v := nI 1) dL_agrees_89 rfl rfl ?_
  refine j_goto (tgt := 94) dL_agrees_90 (by decide) ?_
  refine j_istore (pc' := 96) (lv' := [_, _, _, _, _, _, _, _, _, _, _, _, _]) dL_agrees_94 rfl (by decide) rfl ?_
  refine j_iload_n (pc' := 97) dL_agrees_96 rfl rfl ?_
  refine j_iload (pc' := 99) dL_agrees_97 rfl rfl ?_
  refine j_ifF_eq (pc' := 102) (tgt := 106) (by decide) dL_agrees_99 (by decide) rfl ?_
  refine j_iconst (pc' := 103) (v := nI 1) dL_agrees_102 rfl rfl ?_
  refine j_goto (tgt := 107) dL_agrees_103 (by decide) ?_
  refine j_iadd (pc' := 108) dL_agrees_107 rfl ?_
  refine j_istore_n (pc' := 109) (lv' := [_, _, _, _, _, _, _, _, _, _, _, _, _]) dL_agrees_108 rfl (by decide) rfl ?_
  refine j_iload (pc' := 111) dL_agrees_109 rfl rfl ?_
  refine j_aload_n (pc' := 112) dL_agrees_111 rfl rfl ?_
  refine j_iload (pc' := 114) dL_agrees_112 rfl rfl ?_
  refine j_bipush (pc' := 116) (v := nI 13) dL_agrees_114 rfl rfl ?_
  refine j_cVi (pc' := 119) m_L_31 (p_point hD hV (by omega) (by omega) (a := v (176 + 56 * i + 13)) ((fPt_w hV.z h16 hi (show 13 < 15 from by omega)))) Kd (by decide) rfl rfl rfl ⟨Nat.le_of_ble_eq_true rfl, Nat.le_of_ble_eq_true rfl⟩ ⟨Nat.le_of_ble_eq_true rfl, Nat.le_of_ble_eq_true rfl⟩ (Nat.le_of_ble_eq_true rfl) dL_agrees_116 rfl (fun x1 J1 hq => ?_)
  obtain ⟨hx, hI⟩ := hq
  rw [hx, hI]
  refine j_ifT_le (tgt := 126) (hsh) dL_agrees_119 (by decide) ?_
  refine j_iconst (pc' := 127) (v := nI 0) dL_agrees_126 rfl rfl ?_
  refine j_iadd (pc' := 128) dL_agrees_127 rfl ?_
  refine j_istore (pc' := 130) (lv' := [_, _, _, _, _, _, _, _, _, _, _, _, _]) dL_agrees_128 rfl (by decide) rfl ?_
  refine j_iload (pc' := 132) dL_agrees_130 rfl rfl ?_
  refine j_iload (pc' := 134) dL_agrees_132 rfl rfl ?_
  refine j_ifT_eq (tgt := 141) (by decide) dL_agrees_134 (by decide) ?_
  refine j_iconst (pc' := 142) (v := nI 1) dL_agrees_141 rfl rfl ?_
  refine j_iadd (pc' := 143) dL_agrees_142 rfl ?_
  refine j_istore (pc' := 145) (lv' := [_, _, _, _, _, _, _, _, _, _, _, _, _]) dL_agrees_143 rfl (by decide) rfl ?_
  refine j_iload (pc' := 147) dL_agrees_145 rfl rfl ?_
  refine j_aload_n (pc' := 148) dL_agrees_147 rfl rfl ?_
  refine j_iload (pc' := 150) dL_agrees_148 rfl rfl ?_
  refine j_bipush (pc' := 152) (v := nI 14) dL_agrees_150 rfl rfl ?_
  refine j_cVi (pc' := 155) m_L_31 (p_point hD hV (by omega) (by omega) (a := v (176 + 56 * i + 14)) ((fPt_w hV.z h16 hi (show 14 < 15 from by omega)))) Kd (by decide) rfl rfl rfl ⟨Nat.le_of_ble_eq_true rfl, Nat.le_of_ble_eq_true rfl⟩ ⟨Nat.le_of_ble_eq_true rfl, Nat.le_of_ble_eq_true rfl⟩ (Nat.le_of_ble_eq_true rfl) dL_agrees_152 rfl (fun x1 J1 hq => ?_)
  obtain ⟨hx, hI⟩ := hq
  rw [hx, hI]
  refine j_iadd (pc' := 156) dL_agrees_155 rfl ?_
  refine j_istore (pc' := 158) (lv' := [_, _, _, _, _, _, _, _, _, _, _, _, _]) dL_agrees_156 rfl (by decide) rfl ?_
  refine j_iload (pc' := 160) dL_agrees_158 rfl rfl ?_
  refine j_ifF_eq (pc' := 163) (tgt := 177) (by decide) dL_agrees_160 (by decide) rfl ?_
  refine j_iload (pc' := 165) dL_agrees_163 rfl rfl ?_
  refine j_ifF_lt (pc' := 168) (tgt := 185) (by decide) dL_agrees_165 (by decide) rfl ?_
  refine j_iload (pc' := 170) dL_agrees_168 rfl rfl ?_
  refine j_iconst (pc' := 171) (v := nI 4) dL_agrees_170 rfl rfl ?_
  refine j_icmpT_le (tgt := 187) (by decide) dL_agrees_171 (by decide) ?_
  refine j_aload_n (pc' := 188) dL_agrees_187 rfl rfl ?_
  refine j_iload (pc' := 190) dL_agrees_188 rfl rfl ?_
  refine j_ifT_ge (tgt := 197) (by decide) dL_agrees_190 (by decide) ?_
  refine j_iload (pc' := 199) dL_agrees_197 rfl rfl ?_
  refine j_dup2 (pc' := 200) dL_agrees_199 rfl rfl rfl ?_
  refine j_ialdv (pc' := 201) hka rfl (by decide) (by decide) (hA _ (by decide)) dL_agrees_200 rfl ?_
  refine j_iload (pc' := 203) dL_agrees_201 rfl rfl ?_
  refine j_ifF_eq (pc' := 206) (tgt := 210) (by decide) dL_agrees_203 (by decide) rfl ?_
  refine j_iconst (pc' := 207) (v := nI 1) dL_agrees_206 rfl rfl ?_
  refine j_goto (tgt := 211) dL_agrees_207 (by decide) ?_
  refine j_iadd (pc' := 212) dL_agrees_211 rfl ?_
  refine j_iast (pc' := 213) hka rfl (by decide) (by decide) dL_agrees_212 rfl ?_
  have hD2 := hD.upA (j := 2) (x := cntF v 3 i + nI 1) hda
  have hA2 := why_up (a := a) (by decide) hw0 hA
  change jx_J E l cL_agrees 13 (some .boolean) RL false rmA 1 5 (fun v' n' kd' R' I' => v' = some (.int (nI 1)) ∧ LZ kd' R' I' d k T B) 1 5 n kd R (jx_up I a 2 (cntF v 3 i + nI 1)) 213 _ _
  generalize jx_up I a 2 (cntF v 3 i + nI 1) = I2 at hD2 hA2 ⊢
  have hD := hD2
  refine j_aload_n (pc' := 214) dL_agrees_213 rfl rfl ?_
  refine j_iload (pc' := 216) dL_agrees_214 rfl rfl ?_
  refine j_iconst (pc' := 217) (v := nI 5) dL_agrees_216 rfl rfl ?_
  refine j_cVi (pc' := 220) m_L_31 (p_point hD hV (by omega) (by omega) (a := v (176 + 56 * i + 5)) ((fPt_w hV.z h16 hi (show 5 < 15 from by omega)))) Kd (by decide) rfl rfl rfl ⟨Nat.le_of_ble_eq_true rfl, Nat.le_of_ble_eq_true rfl⟩ ⟨Nat.le_of_ble_eq_true rfl, Nat.le_of_ble_eq_true rfl⟩ (Nat.le_of_ble_eq_true rfl) dL_agrees_217 rfl (fun x1 J1 hq => ?_)
  obtain ⟨hx, hI⟩ := hq
  rw [hx, hI]
  refine j_iconst (pc' := 221) (v := nI 1) dL_agrees_220 rfl rfl ?_
  refine j_icmpT_ne (tgt := 240) (hwf.2.2.2.1 (by omega)) dL_agrees_221 (by decide) ?_
  refine j_aload_n (pc' := 241) dL_agrees_240 rfl rfl ?_
  refine j_iload (pc' := 243) dL_agrees_241 rfl rfl ?_
  refine j_bipush (pc' := 245) (v := nI 13) dL_agrees_243 rfl rfl ?_
  refine j_cVi (pc' := 248) m_L_31 (p_point hD hV (by omega) (by omega) (a := v (176 + 56 * i + 13)) ((fPt_w hV.z h16 hi (show 13 < 15 from by omega)))) Kd (by decide) rfl rfl rfl ⟨Nat.le_of_ble_eq_true rfl, Nat.le_of_ble_eq_true rfl⟩ ⟨Nat.le_of_ble_eq_true rfl, Nat.le_of_ble_eq_true rfl⟩ (Nat.le_of_ble_eq_true rfl) dL_agrees_245 rfl (fun x1 J1 hq => ?_)
  obtain ⟨hx, hI⟩ := hq
  rw [hx, hI]
  refine jx_cut (B := jx_J E l cL_agrees 13 (some .boolean) RL false rmA 1 5 (fun v' n' kd' R' I' => v' = some (.int (nI 1)) ∧ LZ kd' R' I' d k T B) 1 5 n kd R I2 264 [some (.ref d), some (.int (nI k)), some (.ref a), some (.int ((cntF v 0 i) + (nI 1))), some (.int ((cntF v 6 i) + (nI 0))), some (.int ((cntF v 7 i) + (nI 1))), some (.int ((sm v i) + (v (176 + 56 * i + 14)))), some (.int (nI T)), some (.int (nI i)), some (.int (nI 2)), some (.int (nI 0)), some (.int (nI 0)), some (.int (nI 1))] []) (fun kk => ?_) ?_
  ·
    refine j_if_eq (pc' := 251) (tgt := 264) dL_agrees_248 rfl (by decide) (fun c248 => ?_) (fun c248 => ?_)
    ·
      exact kk
    ·
      refine j_aload_n (pc' := 252) dL_agrees_251 rfl rfl ?_
      refine j_iload (pc' := 254) dL_agrees_252 rfl rfl ?_
      refine j_bipush (pc' := 256) (v := nI 13) dL_agrees_254 rfl rfl ?_
      refine j_cVi (pc' := 259) m_L_31 (p_point hD hV (by omega) (by omega) (a := v (176 + 56 * i + 13)) ((fPt_w hV.z h16 hi (show 13 < 15 from by omega)))) Kd (by decide) rfl rfl rfl ⟨Nat.le_of_ble_eq_true rfl, Nat.le_of_ble_eq_true rfl⟩ ⟨Nat.le_of_ble_eq_true rfl, Nat.le_of_ble_eq_true rfl⟩ (Nat.le_of_ble_eq_true rfl) dL_agrees_256 rfl (fun x1 J1 hq => ?_)
      obtain ⟨hx, hI⟩ := hq
      rw [hx, hI]
      refine j_iload (pc' := 261) dL_agrees_259 rfl rfl ?_
      refine j_icmpF_le (pc' := 264) (tgt := 348) (hgtT c248) dL_agrees_261 (by decide) rfl ?_
      exact kk
  ·
    refine j_iload (pc' := 266) dL_agrees_264 rfl rfl ?_
    refine j_iconst (pc' := 267) (v := nI 1) dL_agrees_266 rfl rfl ?_
    refine j_icmpT_ne (tgt := 281) (by decide) dL_agrees_267 (by decide) ?_
    refine j_iload (pc' := 283) dL_agrees_281 rfl rfl ?_
    refine j_iconst (pc' := 284) (v := nI 2) dL_agrees_283 rfl rfl ?_
    refine j_icmpF_ne (pc' := 287) (tgt := 306) (by decide) dL_agrees_284 (by decide) rfl ?_
    refine j_aload_n (pc' := 288) dL_agrees_287 rfl rfl ?_
    refine j_iload (pc' := 290) dL_agrees_288 rfl rfl ?_
    refine j_bipush (pc' := 292) (v := nI 6) dL_agrees_290 rfl rfl ?_
    refine j_cVi (pc' := 295) m_L_31 (p_point hD hV (by omega) (by omega) (a := v (176 + 56 * i + 6)) ((fPt_w hV.z h16 hi (show 6 < 15 from by omega)))) Kd (by decide) rfl rfl rfl ⟨Nat.le_of_ble_eq_true rfl, Nat.le_of_ble_eq_true rfl⟩ ⟨Nat.le_of_ble_eq_true rfl, Nat.le_of_ble_eq_true rfl⟩ (Nat.le_of_ble_eq_true rfl) dL_agrees_292 rfl (fun x1 J1 hq => ?_)
    obtain ⟨hx, hI⟩ := hq
    rw [hx, hI]
    refine j_aload_n (pc' := 296) dL_agrees_295 rfl rfl ?_
    refine j_iconst (pc' := 297) (v := nI 1) dL_agrees_296 rfl rfl ?_
    refine j_cVi (pc' := 300) m_L_44 (p_plant hD hV (by omega) (by omega) (a := v 2) (fPl_1)) Kd (by decide) rfl rfl rfl ⟨Nat.le_of_ble_eq_true rfl, Nat.le_of_ble_eq_true rfl⟩ ⟨Nat.le_of_ble_eq_true rfl, Nat.le_of_ble_eq_true rfl⟩ (Nat.le_of_ble_eq_true rfl) dL_agrees_297 rfl (fun x1 J1 hq => ?_)
    obtain ⟨hx, hI⟩ := hq
    rw [hx, hI]
    refine j_ishr (pc' := 301) dL_agrees_300 rfl ?_
    refine j_iconst (pc' := 302) (v := nI 1) dL_agrees_301 rfl rfl ?_
    refine j_iand (pc' := 303) dL_agrees_302 rfl ?_
    refine j_ifF_eq (pc' := 306) (tgt := 348) (by rw [hwf.2.2.2.2.1 rfl]; decide) dL_agrees_303 (by decide) rfl ?_
    refine j_iload (pc' := 308) dL_agrees_306 rfl rfl ?_
    refine j_iconst (pc' := 309) (v := nI 3) dL_agrees_308 rfl rfl ?_
    refine j_icmpT_ne (tgt := 323) (by decide) dL_agrees_309 (by decide) ?_
    refine j_iload (pc' := 325) dL_agrees_323 rfl rfl ?_
    refine j_iconst (pc' := 326) (v := nI 4) dL_agrees_325 rfl rfl ?_
    refine j_icmpT_ne (tgt := 350) (by decide) dL_agrees_326 (by decide) ?_
    refine j_aload_n (pc' := 351) dL_agrees_350 rfl rfl ?_
    refine j_iload (pc' := 353) dL_agrees_351 rfl rfl ?_
    refine j_bipush (pc' := 355) (v := nI 11) dL_agrees_353 rfl rfl ?_
    refine j_cVi (pc' := 358) m_L_31 (p_point hD hV (by omega) (by omega) (a := v (176 + 56 * i + 11)) ((fPt_w hV.z h16 hi (show 11 < 15 from by omega)))) Kd (by decide) rfl rfl rfl ⟨Nat.le_of_ble_eq_true rfl, Nat.le_of_ble_eq_true rfl⟩ ⟨Nat.le_of_ble_eq_true rfl, Nat.le_of_ble_eq_true rfl⟩ (Nat.le_of_ble_eq_true rfl) dL_agrees_355 rfl (fun x1 J1 hq => ?_)
    obtain ⟨hx, hI⟩ := hq
    rw [hx, hI]
    refine j_aload_n (pc' := 359) dL_agrees_358 rfl rfl ?_
    refine j_iload (pc' := 361) dL_agrees_359 rfl rfl ?_
    refine j_iload (pc' := 363) dL_agrees_361 rfl rfl ?_
    refine j_ifT_eq (tgt := 370) (by decide) dL_agrees_363 (by decide) ?_
    refine j_iconst (pc' := 371) (v := nI 3) dL_agrees_370 rfl rfl ?_
    refine j_cVi (pc' := 374) m_L_31 (p_point hD hV (by omega) (by omega) (a := v (176 + 56 * i + 3)) ((fPt_w hV.z h16 hi (show 3 < 15 from by omega)))) Kd (by decide) rfl rfl rfl ⟨Nat.le_of_ble_eq_true rfl, Nat.le_of_ble_eq_true rfl⟩ ⟨Nat.le_of_ble_eq_true rfl, Nat.le_of_ble_eq_true rfl⟩ (Nat.le_of_ble_eq_true rfl) dL_agrees_371 rfl (fun x1 J1 hq => ?_)
    obtain ⟨hx, hI⟩ := hq
    rw [hx, hI]
    refine jx_cut (B := jx_J E l cL_agrees 13 (some .boolean) RL false rmA 1 5 (fun v' n' kd' R' I' => v' = some (.int (nI 1)) ∧ LZ kd' R' I' d k T B) 1 5 n kd R I2 390 [some (.ref d), some (.int (nI k)), some (.ref a), some (.int ((cntF v 0 i) + (nI 1))), some (.int ((cntF v 6 i) + (nI 0))), some (.int ((cntF v 7 i) + (nI 1))), some (.int ((sm v i) + (v (176 + 56 * i + 14)))), some (.int (nI T)), some (.int (nI i)), some (.int (nI 2)), some (.int (nI 0)), some (.int (nI 0)), some (.int (nI 1))] []) (fun kk => ?_) ?_
    ·
      refine j_icmp_le (pc' := 377) (tgt := 390) dL_agrees_374 rfl (by decide) (fun c374 => ?_) (fun c374 => ?_)
      ·
        exact kk
      ·
        refine j_aload_n (pc' := 378) dL_agrees_377 rfl rfl ?_
        refine j_iload (pc' := 380) dL_agrees_378 rfl rfl ?_
        refine j_bipush (pc' := 382) (v := nI 11) dL_agrees_380 rfl rfl ?_
        refine j_cVi (pc' := 385) m_L_31 (p_point hD hV (by omega) (by omega) (a := nI c) ((fPt_w hV.z h16 hi (show 11 < 15 from by omega)).trans (e11))) Kd (by decide) rfl rfl rfl ⟨Nat.le_of_ble_eq_true rfl, Nat.le_of_ble_eq_true rfl⟩ ⟨Nat.le_of_ble_eq_true rfl, Nat.le_of_ble_eq_true rfl⟩ (Nat.le_of_ble_eq_true rfl) dL_agrees_382 rfl (fun x1 J1 hq => ?_)
        obtain ⟨hx, hI⟩ := hq
        rw [hx, hI]
        refine j_bipush (pc' := 387) (v := nI 20) dL_agrees_385 rfl rfl ?_
        refine j_icmpF_gt (pc' := 390) (tgt := 454) (nI_nlt (by omega) (by omega)) dL_agrees_387 (by decide) rfl ?_
        exact kk
    ·
      refine j_aload_n (pc' := 391) dL_agrees_390 rfl rfl ?_
      refine j_iload (pc' := 393) dL_agrees_391 rfl rfl ?_
      refine j_bipush (pc' := 395) (v := nI 12) dL_agrees_393 rfl rfl ?_
      refine j_cVi (pc' := 398) m_L_31 (p_point hD hV (by omega) (by omega) (a := nI ll) ((fPt_w hV.z h16 hi (show 12 < 15 from by omega)).trans (e12))) Kd (by decide) rfl rfl rfl ⟨Nat.le_of_ble_eq_true rfl, Nat.le_of_ble_eq_true rfl⟩ ⟨Nat.le_of_ble_eq_true rfl, Nat.le_of_ble_eq_true rfl⟩ (Nat.le_of_ble_eq_true rfl) dL_agrees_395 rfl (fun x1 J1 hq => ?_)
      obtain ⟨hx, hI⟩ := hq
      rw [hx, hI]
      refine j_iload (pc' := 400) dL_agrees_398 rfl rfl ?_
      refine j_icmpF_gt (pc' := 403) (tgt := 454) (nI_nlt (by omega) (by omega)) dL_agrees_400 (by decide) rfl ?_
      refine j_aload_n (pc' := 404) dL_agrees_403 rfl rfl ?_
      refine j_iload (pc' := 406) dL_agrees_404 rfl rfl ?_
      refine j_bipush (pc' := 408) (v := nI 14) dL_agrees_406 rfl rfl ?_
      refine j_cVi (pc' := 411) m_L_31 (p_point hD hV (by omega) (by omega) (a := v (176 + 56 * i + 14)) ((fPt_w hV.z h16 hi (show 14 < 15 from by omega)))) Kd (by decide) rfl rfl rfl ⟨Nat.le_of_ble_eq_true rfl, Nat.le_of_ble_eq_true rfl⟩ ⟨Nat.le_of_ble_eq_true rfl, Nat.le_of_ble_eq_true rfl⟩ (Nat.le_of_ble_eq_true rfl) dL_agrees_408 rfl (fun x1 J1 hq => ?_)
      obtain ⟨hx, hI⟩ := hq
      rw [hx, hI]
      refine jx_cut (B := jx_J E l cL_agrees 13 (some .boolean) RL false rmA 1 5 (fun v' n' kd' R' I' => v' = some (.int (nI 1)) ∧ LZ kd' R' I' d k T B) 1 5 n kd R I2 438 [some (.ref d), some (.int (nI k)), some (.ref a), some (.int ((cntF v 0 i) + (nI 1))), some (.int ((cntF v 6 i) + (nI 0))), some (.int ((cntF v 7 i) + (nI 1))), some (.int ((sm v i) + (v (176 + 56 * i + 14)))), some (.int (nI T)), some (.int (nI i)), some (.int (nI 2)), some (.int (nI 0)), some (.int (nI 0)), some (.int (nI 1))] []) (fun kk => ?_) ?_
      ·
        refine j_if_ne (pc' := 414) (tgt := 418) dL_agrees_411 rfl (by decide) (fun c411 => ?_) (fun c411 => ?_)
        ·
          refine j_iconst (pc' := 419) (v := nI 0) dL_agrees_418 rfl rfl ?_
          refine j_aload_n (pc' := 420) dL_agrees_419 rfl rfl ?_
          refine j_iload (pc' := 422) dL_agrees_420 rfl rfl ?_
          refine j_bipush (pc' := 424) (v := nI 12) dL_agrees_422 rfl rfl ?_
          refine j_cVi (pc' := 427) m_L_31 (p_point hD hV (by omega) (by omega) (a := v (176 + 56 * i + 12)) ((fPt_w hV.z h16 hi (show 12 < 15 from by omega)))) Kd (by decide) rfl rfl rfl ⟨Nat.le_of_ble_eq_true rfl, Nat.le_of_ble_eq_true rfl⟩ ⟨Nat.le_of_ble_eq_true rfl, Nat.le_of_ble_eq_true rfl⟩ (Nat.le_of_ble_eq_true rfl) dL_agrees_424 rfl (fun x1 J1 hq => ?_)
          obtain ⟨hx, hI⟩ := hq
          rw [hx, hI]
          refine j_ifT_ne (tgt := 434) (fun z => c411 (h14.mpr z)) dL_agrees_427 (by decide) ?_
          refine j_iconst (pc' := 435) (v := nI 0) dL_agrees_434 rfl rfl ?_
          refine j_icmpF_ne (pc' := 438) (tgt := 454) (by decide) dL_agrees_435 (by decide) rfl ?_
          exact kk
        ·
          refine j_iconst (pc' := 415) (v := nI 1) dL_agrees_414 rfl rfl ?_
          refine j_goto (tgt := 419) dL_agrees_415 (by decide) ?_
          refine j_aload_n (pc' := 420) dL_agrees_419 rfl rfl ?_
          refine j_iload (pc' := 422) dL_agrees_420 rfl rfl ?_
          refine j_bipush (pc' := 424) (v := nI 12) dL_agrees_422 rfl rfl ?_
          refine j_cVi (pc' := 427) m_L_31 (p_point hD hV (by omega) (by omega) (a := v (176 + 56 * i + 12)) ((fPt_w hV.z h16 hi (show 12 < 15 from by omega)))) Kd (by decide) rfl rfl rfl ⟨Nat.le_of_ble_eq_true rfl, Nat.le_of_ble_eq_true rfl⟩ ⟨Nat.le_of_ble_eq_true rfl, Nat.le_of_ble_eq_true rfl⟩ (Nat.le_of_ble_eq_true rfl) dL_agrees_424 rfl (fun x1 J1 hq => ?_)
          obtain ⟨hx, hI⟩ := hq
          rw [hx, hI]
          refine j_ifF_ne (pc' := 430) (tgt := 434) (h14.mp c411) dL_agrees_427 (by decide) rfl ?_
          refine j_iconst (pc' := 431) (v := nI 1) dL_agrees_430 rfl rfl ?_
          refine j_goto (tgt := 435) dL_agrees_431 (by decide) ?_
          refine j_icmpF_ne (pc' := 438) (tgt := 454) (by decide) dL_agrees_435 (by decide) rfl ?_
          exact kk
      ·
        refine j_aload_n (pc' := 439) dL_agrees_438 rfl rfl ?_
        refine j_iload (pc' := 441) dL_agrees_439 rfl rfl ?_
        refine j_bipush (pc' := 443) (v := nI 14) dL_agrees_441 rfl rfl ?_
        refine j_cVi (pc' := 446) m_L_31 (p_point hD hV (by omega) (by omega) (a := v (176 + 56 * i + 14)) ((fPt_w hV.z h16 hi (show 14 < 15 from by omega)))) Kd (by decide) rfl rfl rfl ⟨Nat.le_of_ble_eq_true rfl, Nat.le_of_ble_eq_true rfl⟩ ⟨Nat.le_of_ble_eq_true rfl, Nat.le_of_ble_eq_true rfl⟩ (Nat.le_of_ble_eq_true rfl) dL_agrees_443 rfl (fun x1 J1 hq => ?_)
        obtain ⟨hx, hI⟩ := hq
        rw [hx, hI]
        refine jx_cut (B := jx_J E l cL_agrees 13 (some .boolean) RL false rmA 1 5 (fun v' n' kd' R' I' => v' = some (.int (nI 1)) ∧ LZ kd' R' I' d k T B) 1 5 n kd R I2 456 [some (.ref d), some (.int (nI k)), some (.ref a), some (.int ((cntF v 0 i) + (nI 1))), some (.int ((cntF v 6 i) + (nI 0))), some (.int ((cntF v 7 i) + (nI 1))), some (.int ((sm v i) + (v (176 + 56 * i + 14)))), some (.int (nI T)), some (.int (nI i)), some (.int (nI 2)), some (.int (nI 0)), some (.int (nI 0)), some (.int (nI 1))] []) (fun kk => ?_) ?_
        ·
          refine j_if_ne (pc' := 449) (tgt := 456) dL_agrees_446 rfl (by decide) (fun c446 => ?_) (fun c446 => ?_)
          ·
            exact kk
          ·
            exact absurd (hal c446) (by rw [h9, h10]; decide)
        ·
          refine j_iincN (pc' := 459) (lv' := [_, _, _, _, _, _, _, _, _, _, _, _, _]) dL_agrees_456 rfl rfl (by decide) rfl ?_
          refine j_goto (tgt := 25) dL_agrees_459 (by decide) ?_
          have e0 : cntF v 0 (i + 1) = cntF v 0 i + nI 1 := cnt_t (by rw [cC0]; exact hst)
          have e6 : cntF v 6 (i + 1) = cntF v 6 i + nI 0 := cnt_f (by rw [cC6]; exact decide_eq_false (fun z => z hsh))
          have e7 : cntF v 7 (i + 1) = cntF v 7 i + nI 1 := cnt_t (by rw [cC7]; exact decide_eq_true h10)
          refine j_eqLA e0 e6 e7 ?_
          exact ih (i + 1) I2 _ _ _ _ (by omega) (by omega) hD hA2
set_option maxRecDepth 100000 in
set_option maxHeartbeats 4000000 in
theorem ag_00_30 {E : jx_E} {l : Launch} {n : Nat} {kd : jx_K} {R : jx_R} {d : Nat} {v p : Nat → Int32} {q B k T S N : Nat} {i a : Nat} {I : jx_I} {y9 y10 y11 y12 : Option Value} (hV : VI v k T S N) (hN : N ≤ B) (hB : B + 100000 < 2147483000) (hP : PI v k T) (hi : i < k) (hka : kd a = (7, 5)) (hda : d + 344 ≤ a) (ih : ∀ (j : Nat) (I : jx_I) (y9 y10 y11 y12 : Option Value), i < j → j ≤ k → DK kd R I d v p q B → (∀ w, w < 5 → I a w = cntF v (w + 1) j) → jx_J E l cL_agrees 13 (some .boolean) RL false rmA 1 5 (fun v' n' kd' R' I' => v' = some (.int (nI 1)) ∧ LZ kd' R' I' d k T B) 1 5 n kd R I 25 [some (.ref d), some (.int (nI k)), some (.ref a), some (.int (cntF v 0 j)), some (.int (cntF v 6 j)), some (.int (cntF v 7 j)), some (.int (sm v j)), some (.int (nI T)), some (.int (nI j)), y9, y10, y11, y12] []) (hD : DK kd R I d v p q B) (hA : ∀ w, w < 5 → I a w = cntF v (w + 1) i) (h9 : v (176 + 56 * i + 9) = nI 0) (h10 : v (176 + 56 * i + 10) = nI 0) (hst : sStand v i = true) (hwf : WF v i 3) (hsh : v (176 + 56 * i + 13) ≤ 0) : jx_J E l cL_agrees 13 (some .boolean) RL false rmA 1 5 (fun v' n' kd' R' I' => v' = some (.int (nI 1)) ∧ LZ kd' R' I' d k T B) 1 5 n kd R I 25 [some (.ref d), some (.int (nI k)), some (.ref a), some (.int (cntF v 0 i)), some (.int (cntF v 6 i)), some (.int (cntF v 7 i)), some (.int (sm v i)), some (.int (nI T)), some (.int (nI i)), y9, y10, y11, y12] [] := by
  have h16 := hV.k16
  have Kd := hD.k5
  have hT := hV.tl
  obtain ⟨hp1, hp2⟩ := hP.1 i hi
  obtain ⟨⟨c, hc, e11⟩, aa, ll, haa, hll, e14, e12, hal0, hz⟩ := hp1
  have h14 : v (176 + 56 * i + 14) = 0 ↔ v (176 + 56 * i + 12) = 0 := by
    rw [e14, e12]
    have x1 := nI_eq (show aa < 2 ^ 31 from by omega) (show 0 < 2 ^ 31 from by omega)
    have x2 := nI_eq (show ll < 2 ^ 31 from by omega) (show 0 < 2 ^ 31 from by omega)
    exact x1.trans (hal0.trans x2.symm)
  have hal : v (176 + 56 * i + 14) = 0 → v (176 + 56 * i + 9) = nI 0 ∧ v (176 + 56 * i + 10) = nI 1 := fun z => hz ((nI_eq (show aa < 2 ^ 31 from by omega) (show 0 < 2 ^ 31 from by omega)).mp (e14.symm.trans z))
  have hgtT : ¬ v (176 + 56 * i + 13) = 0 → ¬ v (176 + 56 * i + 13) ≤ nI T := by
    intro z
    rcases hp2.2 with e | ⟨u, hu, hu2, e⟩
    · exact absurd e z
    · rw [e]; exact nI_ge hu (by omega)
  have hw0 := hwf.1
  refine j_iload (pc' := 27) dL_agrees_25 rfl rfl ?_
  refine j_iload_n (pc' := 28) dL_agrees_27 rfl rfl ?_
  refine j_icmpF_ge (pc' := 31) (tgt := 462) (nI_ge hi (by omega)) dL_agrees_28 (by decide) rfl ?_
  refine j_aload_n (pc' := 32) dL_agrees_31 rfl rfl ?_
  refine j_iload (pc' := 34) dL_agrees_32 rfl rfl ?_
  refine j_bipush (pc' := 36) (v := nI 15) dL_agrees_34 rfl rfl ?_
  refine j_cVi (pc' := 39) m_L_31 (p_point hD hV (by omega) (by omega) (a := nI 3) ((fPt_15 hV.z h16 hi).trans hw0)) Kd (by decide) rfl rfl rfl ⟨Nat.le_of_ble_eq_true rfl, Nat.le_of_ble_eq_true rfl⟩ ⟨Nat.le_of_ble_eq_true rfl, Nat.le_of_ble_eq_true rfl⟩ (Nat.le_of_ble_eq_true rfl) dL_agrees_36 rfl (fun x1 J1 hq => ?_)
  obtain ⟨hx, hI⟩ := hq
  rw [hx, hI]
  refine j_istore (pc' := 41) (lv' := [_, _, _, _, _, _, _, _, _, _, _, _, _]) dL_agrees_39 rfl (by decide) rfl ?_
  refine j_aload_n (pc' := 42) dL_agrees_41 rfl rfl ?_
  refine j_iload (pc' := 44) dL_agrees_42 rfl rfl ?_
  refine j_bipush (pc' := 46) (v := nI 9) dL_agrees_44 rfl rfl ?_
  refine j_cVi (pc' := 49) m_L_31 (p_point hD hV (by omega) (by omega) (a := nI 0) ((fPt_w hV.z h16 hi (show 9 < 15 from by omega)).trans (h9))) Kd (by decide) rfl rfl rfl ⟨Nat.le_of_ble_eq_true rfl, Nat.le_of_ble_eq_true rfl⟩ ⟨Nat.le_of_ble_eq_true rfl, Nat.le_of_ble_eq_true rfl⟩ (Nat.le_of_ble_eq_true rfl) dL_agrees_46 rfl (fun x1 J1 hq => ?_)
  obtain ⟨hx, hI⟩ := hq
  rw [hx, hI]
  refine j_iconst (pc' := 50) (v := nI 1) dL_agrees_49 rfl rfl ?_
  refine j_icmpT_ne (tgt := 57) (by decide) dL_agrees_50 (by decide) ?_
  refine j_iconst (pc' := 58) (v := nI 0) dL_agrees_57 rfl rfl ?_
  refine j_istore (pc' := 60) (lv' := [_, _, _, _, _, _, _, _, _, _, _, _, _]) dL_agrees_58 rfl (by decide) rfl ?_
  refine j_aload_n (pc' := 61) dL_agrees_60 rfl rfl ?_
  refine j_iload (pc' := 63) dL_agrees_61 rfl rfl ?_
  refine j_bipush (pc' := 65) (v := nI 10) dL_agrees_63 rfl rfl ?_
  refine j_cVi (pc' := 68) m_L_31 (p_point hD hV (by omega) (by omega) (a := nI 0) ((fPt_w hV.z h16 hi (show 10 < 15 from by omega)).trans (h10))) Kd (by decide) rfl rfl rfl ⟨Nat.le_of_ble_eq_true rfl, Nat.le_of_ble_eq_true rfl⟩ ⟨Nat.le_of_ble_eq_true rfl, Nat.le_of_ble_eq_true rfl⟩ (Nat.le_of_ble_eq_true rfl) dL_agrees_65 rfl (fun x1 J1 hq => ?_)
  obtain ⟨hx, hI⟩ := hq
  rw [hx, hI]
  refine j_iconst (pc' := 69) (v := nI 1) dL_agrees_68 rfl rfl ?_
  refine j_icmpT_ne (tgt := 76) (by decide) dL_agrees_69 (by decide) ?_
  refine j_iconst (pc' := 77) (v := nI 0) dL_agrees_76 rfl rfl ?_
  refine j_istore (pc' := 79) (lv' := [_, _, _, _, _, _, _, _, _, _, _, _, _]) dL_agrees_77 rfl (by decide) rfl ?_
  refine j_iload (pc' := 81) dL_agrees_79 rfl rfl ?_
  refine j_ifF_ne (pc' := 84) (tgt := 89) (by decide) dL_agrees_81 (by decide) rfl ?_
  refine j_iload (pc' := 86) dL_agrees_84 rfl rfl ?_
  refine j_ifF_ne (pc' := 89) (tgt := 93) (by decide) dL_agrees_86 (by decide) rfl ?_
  refine j_iconst (pc' := 90) (v := nI 1) dL_agrees_89 rfl rfl ?_
  refine j_goto (tgt := 94) dL_agrees_90 (by decide) ?_
  refine j_istore (pc' := 96) (lv' := [_, _, _, _, _, _, _, _, _, _, _, _, _]) dL_agrees_94 rfl (by decide) rfl ?_
  refine j_iload_n (pc' := 97) dL_agrees_96 rfl rfl ?_
  refine j_iload (pc' := 99) dL_agrees_97 rfl rfl ?_
  refine j_ifF_eq (pc' := 102) (tgt := 106) (by decide) dL_agrees_99 (by decide) rfl ?_
  refine j_iconst (pc' := 103) (v := nI 1) dL_agrees_102 rfl rfl ?_
  refine j_goto (tgt := 107) dL_agrees_103 (by decide) ?_
  refine j_iadd (pc' := 108) dL_agrees_107 rfl ?_
  refine j_istore_n (pc' := 109) (lv' := [_, _, _, _, _, _, _, _, _, _, _, _, _]) dL_agrees_108 rfl (by decide) rfl ?_
  refine j_iload (pc' := 111) dL_agrees_109 rfl rfl ?_
  refine j_aload_n (pc' := 112) dL_agrees_111 rfl rfl ?_
  refine j_iload (pc' := 114) dL_agrees_112 rfl rfl ?_
  refine j_bipush (pc' := 116) (v := nI 13) dL_agrees_114 rfl rfl ?_
  refine j_cVi (pc' := 119) m_L_31 (p_point hD hV (by omega) (by omega) (a := v (176 + 56 * i + 13)) ((fPt_w hV.z h16 hi (show 13 < 15 from by omega)))) Kd (by decide) rfl rfl rfl ⟨Nat.le_of_ble_eq_true rfl, Nat.le_of_ble_eq_true rfl⟩ ⟨Nat.le_of_ble_eq_true rfl, Nat.le_of_ble_eq_true rfl⟩ (Nat.le_of_ble_eq_true rfl) dL_agrees_116 rfl (fun x1 J1 hq => ?_)
  obtain ⟨hx, hI⟩ := hq
  rw [hx, hI]
  refine j_ifT_le (tgt := 126) (hsh) dL_agrees_119 (by decide) ?_
  refine j_iconst (pc' := 127) (v := nI 0) dL_agrees_126 rfl rfl ?_
  refine j_iadd (pc' := 128) dL_agrees_127 rfl ?_
  refine j_istore (pc' := 130) (lv' := [_, _, _, _, _, _, _, _, _, _, _, _, _]) dL_agrees_128 rfl (by decide) rfl ?_
  refine j_iload (pc' := 132) dL_agrees_130 rfl rfl ?_
  refine j_iload (pc' := 134) dL_agrees_132 rfl rfl ?_
  refine j_ifT_eq (tgt := 141) (by decide) dL_agrees_134 (by decide) ?_
  refine j_iconst (pc' := 142) (v := nI 1) dL_agrees_141 rfl rfl ?_
  refine j_iadd (pc' := 143) dL_agrees_142 rfl ?_
  refine j_istore (pc' := 145) (lv' := [_, _, _, _, _, _, _, _, _, _, _, _, _]) dL_agrees_143 rfl (by decide) rfl ?_
  refine j_iload (pc' := 147) dL_agrees_145 rfl rfl ?_
  refine j_aload_n (pc' := 148) dL_agrees_147 rfl rfl ?_
  refine j_iload (pc' := 150) dL_agrees_148 rfl rfl ?_
  refine j_bipush (pc' := 152) (v := nI 14) dL_agrees_150 rfl rfl ?_
  refine j_cVi (pc' := 155) m_L_31 (p_point hD hV (by omega) (by omega) (a := v (176 + 56 * i + 14)) ((fPt_w hV.z h16 hi (show 14 < 15 from by omega)))) Kd (by decide) rfl rfl rfl ⟨Nat.le_of_ble_eq_true rfl, Nat.le_of_ble_eq_true rfl⟩ ⟨Nat.le_of_ble_eq_true rfl, Nat.le_of_ble_eq_true rfl⟩ (Nat.le_of_ble_eq_true rfl) dL_agrees_152 rfl (fun x1 J1 hq => ?_)
  obtain ⟨hx, hI⟩ := hq
  rw [hx, hI]
  refine j_iadd (pc' := 156) dL_agrees_155 rfl ?_
  refine j_istore (pc' := 158) (lv' := [_, _, _, _, _, _, _, _, _, _, _, _, _]) dL_agrees_156 rfl (by decide) rfl ?_
  refine j_iload (pc' := 160) dL_agrees_158 rfl rfl ?_
  refine j_ifF_eq (pc' := 163) (tgt := 177) (by decide) dL_agrees_160 (by decide) rfl ?_
  refine j_iload (pc' := 165) dL_agrees_163 rfl rfl ?_
  refine j_ifF_lt (pc' := 168) (tgt := 185) (by decide) dL_agrees_165 (by decide) rfl ?_
  refine j_iload (pc' := 170) dL_agrees_168 rfl rfl ?_
  refine j_iconst (pc' := 171) (v := nI 4) dL_agrees_170 rfl rfl ?_
  refine j_icmpT_le (tgt := 187) (by decide) dL_agrees_171 (by decide) ?_
  refine j_aload_n (pc' := 188) dL_agrees_187 rfl rfl ?_
  refine j_iload (pc' := 190) dL_agrees_188 rfl rfl ?_
  refine j_ifT_ge (tgt := 197) (by decide) dL_agrees_190 (by decide) ?_
  refine j_iload (pc' := 199) dL_agrees_197 rfl rfl ?_
  refine j_dup2 (pc' := 200) dL_agrees_199 rfl rfl rfl ?_
  refine j_ialdv (pc' := 201) hka rfl (by decide) (by decide) (hA _ (by decide)) dL_agrees_200 rfl ?_
  refine j_iload (pc' := 203) dL_agrees_201 rfl rfl ?_
  refine j_ifF_eq (pc' := 206) (tgt := 210) (by decide) dL_agrees_203 (by decide) rfl ?_
  refine j_iconst (pc' := 207) (v := nI 1) dL_agrees_206 rfl rfl ?_
  refine j_goto (tgt := 211) dL_agrees_207 (by decide) ?_
  refine j_iadd (pc' := 212) dL_agrees_211 rfl ?_
  refine j_iast (pc' := 213) hka rfl (by decide) (by decide) dL_agrees_212 rfl ?_
  have hD2 := hD.upA (j := 3) (x := cntF v 4 i + nI 1) hda
  have hA2 := why_up (a := a) (by decide) hw0 hA
  change jx_J E l cL_agrees 13 (some .boolean) RL false rmA 1 5 (fun v' n' kd' R' I' => v' = some (.int (nI 1)) ∧ LZ kd' R' I' d k T B) 1 5 n kd R (jx_up I a 3 (cntF v 4 i + nI 1)) 213 _ _
  generalize jx_up I a 3 (cntF v 4 i + nI 1) = I2 at hD2 hA2 ⊢
  have hD := hD2
  refine j_aload_n (pc' := 214) dL_agrees_213 rfl rfl ?_
  refine j_iload (pc' := 216) dL_agrees_214 rfl rfl ?_
  refine j_iconst (pc' := 217) (v := nI 5) dL_agrees_216 rfl rfl ?_
  refine j_cVi (pc' := 220) m_L_31 (p_point hD hV (by omega) (by omega) (a := v (176 + 56 * i + 5)) ((fPt_w hV.z h16 hi (show 5 < 15 from by omega)))) Kd (by decide) rfl rfl rfl ⟨Nat.le_of_ble_eq_true rfl, Nat.le_of_ble_eq_true rfl⟩ ⟨Nat.le_of_ble_eq_true rfl, Nat.le_of_ble_eq_true rfl⟩ (Nat.le_of_ble_eq_true rfl) dL_agrees_217 rfl (fun x1 J1 hq => ?_)
  obtain ⟨hx, hI⟩ := hq
  rw [hx, hI]
  refine j_iconst (pc' := 221) (v := nI 1) dL_agrees_220 rfl rfl ?_
  refine j_icmpT_ne (tgt := 240) (hwf.2.2.2.1 (by omega)) dL_agrees_221 (by decide) ?_
  refine j_aload_n (pc' := 241) dL_agrees_240 rfl rfl ?_
  refine j_iload (pc' := 243) dL_agrees_241 rfl rfl ?_
  refine j_bipush (pc' := 245) (v := nI 13) dL_agrees_243 rfl rfl ?_
  refine j_cVi (pc' := 248) m_L_31 (p_point hD hV (by omega) (by omega) (a := v (176 + 56 * i + 13)) ((fPt_w hV.z h16 hi (show 13 < 15 from by omega)))) Kd (by decide) rfl rfl rfl ⟨Nat.le_of_ble_eq_true rfl, Nat.le_of_ble_eq_true rfl⟩ ⟨Nat.le_of_ble_eq_true rfl, Nat.le_of_ble_eq_true rfl⟩ (Nat.le_of_ble_eq_true rfl) dL_agrees_245 rfl (fun x1 J1 hq => ?_)
  obtain ⟨hx, hI⟩ := hq
  rw [hx, hI]
  refine jx_cut (B := jx_J E l cL_agrees 13 (some .boolean) RL false rmA 1 5 (fun v' n' kd' R' I' => v' = some (.int (nI 1)) ∧ LZ kd' R' I' d k T B) 1 5 n kd R I2 264 [some (.ref d), some (.int (nI k)), some (.ref a), some (.int ((cntF v 0 i) + (nI 1))), some (.int ((cntF v 6 i) + (nI 0))), some (.int ((cntF v 7 i) + (nI 1))), some (.int ((sm v i) + (v (176 + 56 * i + 14)))), some (.int (nI T)), some (.int (nI i)), some (.int (nI 3)), some (.int (nI 0)), some (.int (nI 0)), some (.int (nI 1))] []) (fun kk => ?_) ?_
  ·
    refine j_if_eq (pc' := 251) (tgt := 264) dL_agrees_248 rfl (by decide) (fun c248 => ?_) (fun c248 => ?_)
    ·
      exact kk
    ·
      refine j_aload_n (pc' := 252) dL_agrees_251 rfl rfl ?_
      refine j_iload (pc' := 254) dL_agrees_252 rfl rfl ?_
      refine j_bipush (pc' := 256) (v := nI 13) dL_agrees_254 rfl rfl ?_
      refine j_cVi (pc' := 259) m_L_31 (p_point hD hV (by omega) (by omega) (a := v (176 + 56 * i + 13)) ((fPt_w hV.z h16 hi (show 13 < 15 from by omega)))) Kd (by decide) rfl rfl rfl ⟨Nat.le_of_ble_eq_true rfl, Nat.le_of_ble_eq_true rfl⟩ ⟨Nat.le_of_ble_eq_true rfl, Nat.le_of_ble_eq_true rfl⟩ (Nat.le_of_ble_eq_true rfl) dL_agrees_256 rfl (fun x1 J1 hq => ?_)
      obtain ⟨hx, hI⟩ := hq
      rw [hx, hI]
      refine j_iload (pc' := 261) dL_agrees_259 rfl rfl ?_
      refine j_icmpF_le (pc' := 264) (tgt := 348) (hgtT c248) dL_agrees_261 (by decide) rfl ?_
      exact kk
  ·
    refine j_iload (pc' := 266) dL_agrees_264 rfl rfl ?_
    refine j_iconst (pc' := 267) (v := nI 1) dL_agrees_266 rfl rfl ?_
    refine j_icmpT_ne (tgt := 281) (by decide) dL_agrees_267 (by decide) ?_
    refine j_iload (pc' := 283) dL_agrees_281 rfl rfl ?_
    refine j_iconst (pc' := 284) (v := nI 2) dL_agrees_283 rfl rfl ?_
    refine j_icmpT_ne (tgt := 306) (by decide) dL_agrees_284 (by decide) ?_
    refine j_iload (pc' := 308) dL_agrees_306 rfl rfl ?_
    refine j_iconst (pc' := 309) (v := nI 3) dL_agrees_308 rfl rfl ?_
    refine j_icmpF_ne (pc' := 312) (tgt := 323) (by decide) dL_agrees_309 (by decide) rfl ?_
    refine j_aload_n (pc' := 313) dL_agrees_312 rfl rfl ?_
    refine j_iload (pc' := 315) dL_agrees_313 rfl rfl ?_
    refine j_bipush (pc' := 317) (v := nI 8) dL_agrees_315 rfl rfl ?_
    refine j_cVi (pc' := 320) m_L_31 (p_point hD hV (by omega) (by omega) (a := v (176 + 56 * i + 8)) ((fPt_w hV.z h16 hi (show 8 < 15 from by omega)))) Kd (by decide) rfl rfl rfl ⟨Nat.le_of_ble_eq_true rfl, Nat.le_of_ble_eq_true rfl⟩ ⟨Nat.le_of_ble_eq_true rfl, Nat.le_of_ble_eq_true rfl⟩ (Nat.le_of_ble_eq_true rfl) dL_agrees_317 rfl (fun x1 J1 hq => ?_)
    obtain ⟨hx, hI⟩ := hq
    rw [hx, hI]
    refine j_ifF_lt (pc' := 323) (tgt := 348) (hwf.2.2.2.2.2.1 rfl) dL_agrees_320 (by decide) rfl ?_
    refine j_iload (pc' := 325) dL_agrees_323 rfl rfl ?_
    refine j_iconst (pc' := 326) (v := nI 4) dL_agrees_325 rfl rfl ?_
    refine j_icmpT_ne (tgt := 350) (by decide) dL_agrees_326 (by decide) ?_
    refine j_aload_n (pc' := 351) dL_agrees_350 rfl rfl ?_
    refine j_iload (pc' := 353) dL_agrees_351 rfl rfl ?_
    refine j_bipush (pc' := 355) (v := nI 11) dL_agrees_353 rfl rfl ?_
    refine j_cVi (pc' := 358) m_L_31 (p_point hD hV (by omega) (by omega) (a := v (176 + 56 * i + 11)) ((fPt_w hV.z h16 hi (show 11 < 15 from by omega)))) Kd (by decide) rfl rfl rfl ⟨Nat.le_of_ble_eq_true rfl, Nat.le_of_ble_eq_true rfl⟩ ⟨Nat.le_of_ble_eq_true rfl, Nat.le_of_ble_eq_true rfl⟩ (Nat.le_of_ble_eq_true rfl) dL_agrees_355 rfl (fun x1 J1 hq => ?_)
    obtain ⟨hx, hI⟩ := hq
    rw [hx, hI]
    refine j_aload_n (pc' := 359) dL_agrees_358 rfl rfl ?_
    refine j_iload (pc' := 361) dL_agrees_359 rfl rfl ?_
    refine j_iload (pc' := 363) dL_agrees_361 rfl rfl ?_
    refine j_ifT_eq (tgt := 370) (by decide) dL_agrees_363 (by decide) ?_
    refine j_iconst (pc' := 371) (v := nI 3) dL_agrees_370 rfl rfl ?_
    refine j_cVi (pc' := 374) m_L_31 (p_point hD hV (by omega) (by omega) (a := v (176 + 56 * i + 3)) ((fPt_w hV.z h16 hi (show 3 < 15 from by omega)))) Kd (by decide) rfl rfl rfl ⟨Nat.le_of_ble_eq_true rfl, Nat.le_of_ble_eq_true rfl⟩ ⟨Nat.le_of_ble_eq_true rfl, Nat.le_of_ble_eq_true rfl⟩ (Nat.le_of_ble_eq_true rfl) dL_agrees_371 rfl (fun x1 J1 hq => ?_)
    obtain ⟨hx, hI⟩ := hq
    rw [hx, hI]
    refine jx_cut (B := jx_J E l cL_agrees 13 (some .boolean) RL false rmA 1 5 (fun v' n' kd' R' I' => v' = some (.int (nI 1)) ∧ LZ kd' R' I' d k T B) 1 5 n kd R I2 390 [some (.ref d), some (.int (nI k)), some (.ref a), some (.int ((cntF v 0 i) + (nI 1))), some (.int ((cntF v 6 i) + (nI 0))), some (.int ((cntF v 7 i) + (nI 1))), some (.int ((sm v i) + (v (176 + 56 * i + 14)))), some (.int (nI T)), some (.int (nI i)), some (.int (nI 3)), some (.int (nI 0)), some (.int (nI 0)), some (.int (nI 1))] []) (fun kk => ?_) ?_
    ·
      refine j_icmp_le (pc' := 377) (tgt := 390) dL_agrees_374 rfl (by decide) (fun c374 => ?_) (fun c374 => ?_)
      ·
        exact kk
      ·
        refine j_aload_n (pc' := 378) dL_agrees_377 rfl rfl ?_
        refine j_iload (pc' := 380) dL_agrees_378 rfl rfl ?_
        refine j_bipush (pc' := 382) (v := nI 11) dL_agrees_380 rfl rfl ?_
        refine j_cVi (pc' := 385) m_L_31 (p_point hD hV (by omega) (by omega) (a := nI c) ((fPt_w hV.z h16 hi (show 11 < 15 from by omega)).trans (e11))) Kd (by decide) rfl rfl rfl ⟨Nat.le_of_ble_eq_true rfl, Nat.le_of_ble_eq_true rfl⟩ ⟨Nat.le_of_ble_eq_true rfl, Nat.le_of_ble_eq_true rfl⟩ (Nat.le_of_ble_eq_true rfl) dL_agrees_382 rfl (fun x1 J1 hq => ?_)
        obtain ⟨hx, hI⟩ := hq
        rw [hx, hI]
        refine j_bipush (pc' := 387) (v := nI 20) dL_agrees_385 rfl rfl ?_
        refine j_icmpF_gt (pc' := 390) (tgt := 454) (nI_nlt (by omega) (by omega)) dL_agrees_387 (by decide) rfl ?_
        exact kk
    ·
      refine j_aload_n (pc' := 391) dL_agrees_390 rfl rfl ?_
      refine j_iload (pc' := 393) dL_agrees_391 rfl rfl ?_
      refine j_bipush (pc' := 395) (v := nI 12) dL_agrees_393 rfl rfl ?_
      refine j_cVi (pc' := 398) m_L_31 (p_point hD hV (by omega) (by omega) (a := nI ll) ((fPt_w hV.z h16 hi (show 12 < 15 from by omega)).trans (e12))) Kd (by decide) rfl rfl rfl ⟨Nat.le_of_ble_eq_true rfl, Nat.le_of_ble_eq_true rfl⟩ ⟨Nat.le_of_ble_eq_true rfl, Nat.le_of_ble_eq_true rfl⟩ (Nat.le_of_ble_eq_true rfl) dL_agrees_395 rfl (fun x1 J1 hq => ?_)
      obtain ⟨hx, hI⟩ := hq
      rw [hx, hI]
      refine j_iload (pc' := 400) dL_agrees_398 rfl rfl ?_
      refine j_icmpF_gt (pc' := 403) (tgt := 454) (nI_nlt (by omega) (by omega)) dL_agrees_400 (by decide) rfl ?_
      refine j_aload_n (pc' := 404) dL_agrees_403 rfl rfl ?_
      refine j_iload (pc' := 406) dL_agrees_404 rfl rfl ?_
      refine j_bipush (pc' := 408) (v := nI 14) dL_agrees_406 rfl rfl ?_
      refine j_cVi (pc' := 411) m_L_31 (p_point hD hV (by omega) (by omega) (a := v (176 + 56 * i + 14)) ((fPt_w hV.z h16 hi (show 14 < 15 from by omega)))) Kd (by decide) rfl rfl rfl ⟨Nat.le_of_ble_eq_true rfl, Nat.le_of_ble_eq_true rfl⟩ ⟨Nat.le_of_ble_eq_true rfl, Nat.le_of_ble_eq_true rfl⟩ (Nat.le_of_ble_eq_true rfl) dL_agrees_408 rfl (fun x1 J1 hq => ?_)
      obtain ⟨hx, hI⟩ := hq
      rw [hx, hI]
      refine jx_cut (B := jx_J E l cL_agrees 13 (some .boolean) RL false rmA 1 5 (fun v' n' kd' R' I' => v' = some (.int (nI 1)) ∧ LZ kd' R' I' d k T B) 1 5 n kd R I2 438 [some (.ref d), some (.int (nI k)), some (.ref a), some (.int ((cntF v 0 i) + (nI 1))), some (.int ((cntF v 6 i) + (nI 0))), some (.int ((cntF v 7 i) + (nI 1))), some (.int ((sm v i) + (v (176 + 56 * i + 14)))), some (.int (nI T)), some (.int (nI i)), some (.int (nI 3)), some (.int (nI 0)), some (.int (nI 0)), some (.int (nI 1))] []) (fun kk => ?_) ?_
      ·
        refine j_if_ne (pc' := 414) (tgt := 418) dL_agrees_411 rfl (by decide) (fun c411 => ?_) (fun c411 => ?_)
        ·
          refine j_iconst (pc' := 419) (v := nI 0) dL_agrees_418 rfl rfl ?_
          refine j_aload_n (pc' := 420) dL_agrees_419 rfl rfl ?_
          refine j_iload (pc' := 422) dL_agrees_420 rfl rfl ?_
          refine j_bipush (pc' := 424) (v := nI 12) dL_agrees_422 rfl rfl ?_
          refine j_cVi (pc' := 427) m_L_31 (p_point hD hV (by omega) (by omega) (a := v (176 + 56 * i + 12)) ((fPt_w hV.z h16 hi (show 12 < 15 from by omega)))) Kd (by decide) rfl rfl rfl ⟨Nat.le_of_ble_eq_true rfl, Nat.le_of_ble_eq_true rfl⟩ ⟨Nat.le_of_ble_eq_true rfl, Nat.le_of_ble_eq_true rfl⟩ (Nat.le_of_ble_eq_true rfl) dL_agrees_424 rfl (fun x1 J1 hq => ?_)
          obtain ⟨hx, hI⟩ := hq
          rw [hx, hI]
          refine j_ifT_ne (tgt := 434) (fun z => c411 (h14.mpr z)) dL_agrees_427 (by decide) ?_
          refine j_iconst (pc' := 435) (v := nI 0) dL_agrees_434 rfl rfl ?_
          refine j_icmpF_ne (pc' := 438) (tgt := 454) (by decide) dL_agrees_435 (by decide) rfl ?_
          exact kk
        ·
          refine j_iconst (pc' := 415) (v := nI 1) dL_agrees_414 rfl rfl ?_
          refine j_goto (tgt := 419) dL_agrees_415 (by decide) ?_
          refine j_aload_n (pc' := 420) dL_agrees_419 rfl rfl ?_
          refine j_iload (pc' := 422) dL_agrees_420 rfl rfl ?_
          refine j_bipush (pc' := 424) (v := nI 12) dL_agrees_422 rfl rfl ?_
          refine j_cVi (pc' := 427) m_L_31 (p_point hD hV (by omega) (by omega) (a := v (176 + 56 * i + 12)) ((fPt_w hV.z h16 hi (show 12 < 15 from by omega)))) Kd (by decide) rfl rfl rfl ⟨Nat.le_of_ble_eq_true rfl, Nat.le_of_ble_eq_true rfl⟩ ⟨Nat.le_of_ble_eq_true rfl, Nat.le_of_ble_eq_true rfl⟩ (Nat.le_of_ble_eq_true rfl) dL_agrees_424 rfl (fun x1 J1 hq => ?_)
          obtain ⟨hx, hI⟩ := hq
          rw [hx, hI]
          refine j_ifF_ne (pc' := 430) (tgt := 434) (h14.mp c411) dL_agrees_427 (by decide) rfl ?_
          refine j_iconst (pc' := 431) (v := nI 1) dL_agrees_430 rfl rfl ?_
          refine j_goto (tgt := 435) dL_agrees_431 (by decide) ?_
          refine j_icmpF_ne (pc' := 438) (tgt := 454) (by decide) dL_agrees_435 (by decide) rfl ?_
          exact kk
      ·
        refine j_aload_n (pc' := 439) dL_agrees_438 rfl rfl ?_
        refine j_iload (pc' := 441) dL_agrees_439 rfl rfl ?_
        refine j_bipush (pc' := 443) (v := nI 14) dL_agrees_441 rfl rfl ?_
        refine j_cVi (pc' := 446) m_L_31 (p_point hD hV (by omega) (by omega) (a := v (176 + 56 * i + 14)) ((fPt_w hV.z h16 hi (show 14 < 15 from by omega)))) Kd (by decide) rfl rfl rfl ⟨Nat.le_of_ble_eq_true rfl, Nat.le_of_ble_eq_true rfl⟩ ⟨Nat.le_of_ble_eq_true rfl, Nat.le_of_ble_eq_true rfl⟩ (Nat.le_of_ble_eq_true rfl) dL_agrees_443 rfl (fun x1 J1 hq => ?_)
        obtain ⟨hx, hI⟩ := hq
        rw [hx, hI]
        refine jx_cut (B := jx_J E l cL_agrees 13 (some .boolean) RL false rmA 1 5 (fun v' n' kd' R' I' => v' = some (.int (nI 1)) ∧ LZ kd' R' I' d k T B) 1 5 n kd R I2 456 [some (.ref d), some (.int (nI k)), some (.ref a), some (.int ((cntF v 0 i) + (nI 1))), some (.int ((cntF v 6 i) + (nI 0))), some (.int ((cntF v 7 i) + (nI 1))), some (.int ((sm v i) + (v (176 + 56 * i + 14)))), some (.int (nI T)), some (.int (nI i)), some (.int (nI 3)), some (.int (nI 0)), some (.int (nI 0)), some (.int (nI 1))] []) (fun kk => ?_) ?_
        ·
          refine j_if_ne (pc' := 449) (tgt := 456) dL_agrees_446 rfl (by decide) (fun c446 => ?_) (fun c446 => ?_)
          ·
            exact kk
          ·
            exact absurd (hal c446) (by rw [h9, h10]; decide)
        ·
          refine j_iincN (pc' := 459) (lv' := [_, _, _, _, _, _, _, _, _, _, _, _, _]) dL_agrees_456 rfl rfl (by decide) rfl ?_
          refine j_goto (tgt := 25) dL_agrees_459 (by decide) ?_
          have e0 : cntF v 0 (i + 1) = cntF v 0 i + nI 1 := cnt_t (by rw [cC0]; exact hst)
          have e6 : cntF v 6 (i + 1) = cntF v 6 i + nI 0 := cnt_f (by rw [cC6]; exact decide_eq_false (fun z => z hsh))
          have e7 : cntF v 7 (i + 1) = cntF v 7 i + nI 1 := cnt_t (by rw [cC7]; exact decide_eq_true h10)
          refine j_eqLA e0 e6 e7 ?_
          exact ih (i + 1) I2 _ _ _ _ (by omega) (by omega) hD hA2
set_option maxRecDepth 100000 in
set_option maxHeartbeats 4000000 in
theorem ag_00_40 {E : jx_E} {l : Launch} {n : Nat} {kd : jx_K} {R : jx_R} {d : Nat} {v p : Nat → Int32} {q B k T S N : Nat} {i a : Nat} {I : jx_I} {y9 y10 y11 y12 : Option Value} (hV : VI v k T S N) (hN : N ≤ B) (hB : B + 100000 < 2147483000) (hP : PI v k T) (hi : i < k) (hka : kd a = (7, 5)) (hda : d + 344 ≤ a) (ih : ∀ (j : Nat) (I : jx_I) (y9 y10 y11 y12 : Option Value), i < j → j ≤ k → DK kd R I d v p q B → (∀ w, w < 5 → I a w = cntF v (w + 1) j) → jx_J E l cL_agrees 13 (some .boolean) RL false rmA 1 5 (fun v' n' kd' R' I' => v' = some (.int (nI 1)) ∧ LZ kd' R' I' d k T B) 1 5 n kd R I 25 [some (.ref d), some (.int (nI k)), some (.ref a), some (.int (cntF v 0 j)), some (.int (cntF v 6 j)), some (.int (cntF v 7 j)), some (.int (sm v j)), some (.int (nI T)), some (.int (nI j)), y9, y10, y11, y12] []) (hD : DK kd R I d v p q B) (hA : ∀ w, w < 5 → I a w = cntF v (w + 1) i) (h9 : v (176 + 56 * i + 9) = nI 0) (h10 : v (176 + 56 * i + 10) = nI 0) (hst : sStand v i = true) (hwf : WF v i 4) (hsh : v (176 + 56 * i + 13) ≤ 0) : jx_J E l cL_agrees 13 (some .boolean) RL false rmA 1 5 (fun v' n' kd' R' I' => v' = some (.int (nI 1)) ∧ LZ kd' R' I' d k T B) 1 5 n kd R I 25 [some (.ref d), some (.int (nI k)), some (.ref a), some (.int (cntF v 0 i)), some (.int (cntF v 6 i)), some (.int (cntF v 7 i)), some (.int (sm v i)), some (.int (nI T)), some (.int (nI i)), y9, y10, y11, y12] [] := by
  have h16 := hV.k16
  have Kd := hD.k5
  have hT := hV.tl
  obtain ⟨hp1, hp2⟩ := hP.1 i hi
  obtain ⟨⟨c, hc, e11⟩, aa, ll, haa, hll, e14, e12, hal0, hz⟩ := hp1
  have h14 : v (176 + 56 * i + 14) = 0 ↔ v (176 + 56 * i + 12) = 0 := by
    rw [e14, e12]
    have x1 := nI_eq (show aa < 2 ^ 31 from by omega) (show 0 < 2 ^ 31 from by omega)
    have x2 := nI_eq (show ll < 2 ^ 31 from by omega) (show 0 < 2 ^ 31 from by omega)
    exact x1.trans (hal0.trans x2.symm)
  have hal : v (176 + 56 * i + 14) = 0 → v (176 + 56 * i + 9) = nI 0 ∧ v (176 + 56 * i + 10) = nI 1 := fun z => hz ((nI_eq (show aa < 2 ^ 31 from by omega) (show 0 < 2 ^ 31 from by omega)).mp (e14.symm.trans z))
  have hgtT : ¬ v (176 + 56 * i + 13) = 0 → ¬ v (176 + 56 * i + 13) ≤ nI T := by
    intro z
    rcases hp2.2 with e | ⟨u, hu, hu2, e⟩
    · exact absurd e z
    · rw [e]; exact nI_ge hu (by omega)
  have hw0 := hwf.1
  have h35 : ¬ v (176 + 56 * i + 5) ≤ nI 2 → nI 3 ≤ v (176 + 56 * i + 5) := by
    intro z
    rw [Int32.le_iff_toInt_le] at z ⊢
    have x2 : (nI 2).toInt = 2 := rfl
    have x3 : (nI 3).toInt = 3 := rfl
    omega
  refine j_iload (pc' := 27) dL_agrees_25 rfl rfl ?_
  refine j_iload_n (pc' := 28) dL_agrees_27 rfl rfl ?_
  refine j_icmpF_ge (pc' := 31) (tgt := 462) (nI_ge hi (by omega)) dL_agrees_28 (by decide) rfl ?_
  refine j_aload_n (pc' := 32) dL_agrees_31 rfl rfl ?_
  refine j_iload (pc' := 34) dL_agrees_32 rfl rfl ?_
  refine j_bipush (pc' := 36) (v := nI 15) dL_agrees_34 rfl rfl ?_
  refine j_cVi (pc' := 39) m_L_31 (p_point hD hV (by omega) (by omega) (a := nI 4) ((fPt_15 hV.z h16 hi).trans hw0)) Kd (by decide) rfl rfl rfl ⟨Nat.le_of_ble_eq_true rfl, Nat.le_of_ble_eq_true rfl⟩ ⟨Nat.le_of_ble_eq_true rfl, Nat.le_of_ble_eq_true rfl⟩ (Nat.le_of_ble_eq_true rfl) dL_agrees_36 rfl (fun x1 J1 hq => ?_)
  obtain ⟨hx, hI⟩ := hq
  rw [hx, hI]
  refine j_istore (pc' := 41) (lv' := [_, _, _, _, _, _, _, _, _, _, _, _, _]) dL_agrees_39 rfl (by decide) rfl ?_
  refine j_aload_n (pc' := 42) dL_agrees_41 rfl rfl ?_
  refine j_iload (pc' := 44) dL_agrees_42 rfl rfl ?_
  refine j_bipush (pc' := 46) (v := nI 9) dL_agrees_44 rfl rfl ?_
  refine j_cVi (pc' := 49) m_L_31 (p_point hD hV (by omega) (by omega) (a := nI 0) ((fPt_w hV.z h16 hi (show 9 < 15 from by omega)).trans (h9))) Kd (by decide) rfl rfl rfl ⟨Nat.le_of_ble_eq_true rfl, Nat.le_of_ble_eq_true rfl⟩ ⟨Nat.le_of_ble_eq_true rfl, Nat.le_of_ble_eq_true rfl⟩ (Nat.le_of_ble_eq_true rfl) dL_agrees_46 rfl (fun x1 J1 hq => ?_)
  obtain ⟨hx, hI⟩ := hq
  rw [hx, hI]
  refine j_iconst (pc' := 50) (v := nI 1) dL_agrees_49 rfl rfl ?_
  refine j_icmpT_ne (tgt := 57) (by decide) dL_agrees_50 (by decide) ?_
  refine j_iconst (pc' := 58) (v := nI 0) dL_agrees_57 rfl rfl ?_
  refine j_istore (pc' := 60) (lv' := [_, _, _, _, _, _, _, _, _, _, _, _, _]) dL_agrees_58 rfl (by decide) rfl ?_
  refine j_aload_n (pc' := 61) dL_agrees_60 rfl rfl ?_
  refine j_iload (pc' := 63) dL_agrees_61 rfl rfl ?_
  refine j_bipush (pc' := 65) (v := nI 10) dL_agrees_63 rfl rfl ?_
  refine j_cVi (pc' := 68) m_L_31 (p_point hD hV (by omega) (by omega) (a := nI 0) ((fPt_w hV.z h16 hi (show 10 < 15 from by omega)).trans (h10))) Kd (by decide) rfl rfl rfl ⟨Nat.le_of_ble_eq_true rfl, Nat.le_of_ble_eq_true rfl⟩ ⟨Nat.le_of_ble_eq_true rfl, Nat.le_of_ble_eq_true rfl⟩ (Nat.le_of_ble_eq_true rfl) dL_agrees_65 rfl (fun x1 J1 hq => ?_)
  obtain ⟨hx, hI⟩ := hq
  rw [hx, hI]
  refine j_iconst (pc' := 69) (v := nI 1) dL_agrees_68 rfl rfl ?_
  refine j_icmpT_ne (tgt := 76) (by decide) dL_agrees_69 (by decide) ?_
  refine j_iconst (pc' := 77) (v := nI 0) dL_agrees_76 rfl rfl ?_
  refine j_istore (pc' := 79) (lv' := [_, _, _, _, _, _, _, _, _, _, _, _, _]) dL_agrees_77 rfl (by decide) rfl ?_
  refine j_iload (pc' := 81) dL_agrees_79 rfl rfl ?_
  refine j_ifF_ne (pc' := 84) (tgt := 89) (by decide) dL_agrees_81 (by decide) rfl ?_
  refine j_iload (pc' := 86) dL_agrees_84 rfl rfl ?_
  refine j_ifF_ne (pc' := 89) (tgt := 93) (by decide) dL_agrees_86 (by decide) rfl ?_
  refine j_iconst (pc' := 90) (v := nI 1) dL_agrees_89 rfl rfl ?_
  refine j_goto (tgt := 94) dL_agrees_90 (by decide) ?_
  refine j_istore (pc' := 96) (lv' := [_, _, _, _, _, _, _, _, _, _, _, _, _]) dL_agrees_94 rfl (by decide) rfl ?_
  refine j_iload_n (pc' := 97) dL_agrees_96 rfl rfl ?_
  refine j_iload (pc' := 99) dL_agrees_97 rfl rfl ?_
  refine j_ifF_eq (pc' := 102) (tgt := 106) (by decide) dL_agrees_99 (by decide) rfl ?_
  refine j_iconst (pc' := 103) (v := nI 1) dL_agrees_102 rfl rfl ?_
  refine j_goto (tgt := 107) dL_agrees_103 (by decide) ?_
  refine j_iadd (pc' := 108) dL_agrees_107 rfl ?_
  refine j_istore_n (pc' := 109) (lv' := [_, _, _, _, _, _, _, _, _, _, _, _, _]) dL_agrees_108 rfl (by decide) rfl ?_
  refine j_iload (pc' := 111) dL_agrees_109 rfl rfl ?_
  refine j_aload_n (pc' := 112) dL_agrees_111 rfl rfl ?_
  refine j_iload (pc' := 114) dL_agrees_112 rfl rfl ?_
  refine j_bipush (pc' := 116) (v := nI 13) dL_agrees_114 rfl rfl ?_
  refine j_cVi (pc' := 119) m_L_31 (p_point hD hV (by omega) (by omega) (a := v (176 + 56 * i + 13)) ((fPt_w hV.z h16 hi (show 13 < 15 from by omega)))) Kd (by decide) rfl rfl rfl ⟨Nat.le_of_ble_eq_true rfl, Nat.le_of_ble_eq_true rfl⟩ ⟨Nat.le_of_ble_eq_true rfl, Nat.le_of_ble_eq_true rfl⟩ (Nat.le_of_ble_eq_true rfl) dL_agrees_116 rfl (fun x1 J1 hq => ?_)
  obtain ⟨hx, hI⟩ := hq
  rw [hx, hI]
  refine j_ifT_le (tgt := 126) (hsh) dL_agrees_119 (by decide) ?_
  refine j_iconst (pc' := 127) (v := nI 0) dL_agrees_126 rfl rfl ?_
  refine j_iadd (pc' := 128) dL_agrees_127 rfl ?_
  refine j_istore (pc' := 130) (lv' := [_, _, _, _, _, _, _, _, _, _, _, _, _]) dL_agrees_128 rfl (by decide) rfl ?_
  refine j_iload (pc' := 132) dL_agrees_130 rfl rfl ?_
  refine j_iload (pc' := 134) dL_agrees_132 rfl rfl ?_
  refine j_ifT_eq (tgt := 141) (by decide) dL_agrees_134 (by decide) ?_
  refine j_iconst (pc' := 142) (v := nI 1) dL_agrees_141 rfl rfl ?_
  refine j_iadd (pc' := 143) dL_agrees_142 rfl ?_
  refine j_istore (pc' := 145) (lv' := [_, _, _, _, _, _, _, _, _, _, _, _, _]) dL_agrees_143 rfl (by decide) rfl ?_
  refine j_iload (pc' := 147) dL_agrees_145 rfl rfl ?_
  refine j_aload_n (pc' := 148) dL_agrees_147 rfl rfl ?_
  refine j_iload (pc' := 150) dL_agrees_148 rfl rfl ?_
  refine j_bipush (pc' := 152) (v := nI 14) dL_agrees_150 rfl rfl ?_
  refine j_cVi (pc' := 155) m_L_31 (p_point hD hV (by omega) (by omega) (a := v (176 + 56 * i + 14)) ((fPt_w hV.z h16 hi (show 14 < 15 from by omega)))) Kd (by decide) rfl rfl rfl ⟨Nat.le_of_ble_eq_true rfl, Nat.le_of_ble_eq_true rfl⟩ ⟨Nat.le_of_ble_eq_true rfl, Nat.le_of_ble_eq_true rfl⟩ (Nat.le_of_ble_eq_true rfl) dL_agrees_152 rfl (fun x1 J1 hq => ?_)
  obtain ⟨hx, hI⟩ := hq
  rw [hx, hI]
  refine j_iadd (pc' := 156) dL_agrees_155 rfl ?_
  refine j_istore (pc' := 158) (lv' := [_, _, _, _, _, _, _, _, _, _, _, _, _]) dL_agrees_156 rfl (by decide) rfl ?_
  refine j_iload (pc' := 160) dL_agrees_158 rfl rfl ?_
  refine j_ifF_eq (pc' := 163) (tgt := 177) (by decide) dL_agrees_160 (by decide) rfl ?_
  refine j_iload (pc' := 165) dL_agrees_163 rfl rfl ?_
  refine j_ifF_lt (pc' := 168) (tgt := 185) (by decide) dL_agrees_165 (by decide) rfl ?_
  refine j_iload (pc' := 170) dL_agrees_168 rfl rfl ?_
  refine j_iconst (pc' := 171) (v := nI 4) dL_agrees_170 rfl rfl ?_
  refine j_icmpT_le (tgt := 187) (by decide) dL_agrees_171 (by decide) ?_
  refine j_aload_n (pc' := 188) dL_agrees_187 rfl rfl ?_
  refine j_iload (pc' := 190) dL_agrees_188 rfl rfl ?_
  refine j_ifT_ge (tgt := 197) (by decide) dL_agrees_190 (by decide) ?_
  refine j_iload (pc' := 199) dL_agrees_197 rfl rfl ?_
  refine j_dup2 (pc' := 200) dL_agrees_199 rfl rfl rfl ?_
  refine j_ialdv (pc' := 201) hka rfl (by decide) (by decide) (hA _ (by decide)) dL_agrees_200 rfl ?_
  refine j_iload (pc' := 203) dL_agrees_201 rfl rfl ?_
  refine j_ifF_eq (pc' := 206) (tgt := 210) (by decide) dL_agrees_203 (by decide) rfl ?_
  refine j_iconst (pc' := 207) (v := nI 1) dL_agrees_206 rfl rfl ?_
  refine j_goto (tgt := 211) dL_agrees_207 (by decide) ?_
  refine j_iadd (pc' := 212) dL_agrees_211 rfl ?_
  refine j_iast (pc' := 213) hka rfl (by decide) (by decide) dL_agrees_212 rfl ?_
  have hD2 := hD.upA (j := 4) (x := cntF v 5 i + nI 1) hda
  have hA2 := why_up (a := a) (by decide) hw0 hA
  change jx_J E l cL_agrees 13 (some .boolean) RL false rmA 1 5 (fun v' n' kd' R' I' => v' = some (.int (nI 1)) ∧ LZ kd' R' I' d k T B) 1 5 n kd R (jx_up I a 4 (cntF v 5 i + nI 1)) 213 _ _
  generalize jx_up I a 4 (cntF v 5 i + nI 1) = I2 at hD2 hA2 ⊢
  have hD := hD2
  refine j_aload_n (pc' := 214) dL_agrees_213 rfl rfl ?_
  refine j_iload (pc' := 216) dL_agrees_214 rfl rfl ?_
  refine j_iconst (pc' := 217) (v := nI 5) dL_agrees_216 rfl rfl ?_
  refine j_cVi (pc' := 220) m_L_31 (p_point hD hV (by omega) (by omega) (a := v (176 + 56 * i + 5)) ((fPt_w hV.z h16 hi (show 5 < 15 from by omega)))) Kd (by decide) rfl rfl rfl ⟨Nat.le_of_ble_eq_true rfl, Nat.le_of_ble_eq_true rfl⟩ ⟨Nat.le_of_ble_eq_true rfl, Nat.le_of_ble_eq_true rfl⟩ (Nat.le_of_ble_eq_true rfl) dL_agrees_217 rfl (fun x1 J1 hq => ?_)
  obtain ⟨hx, hI⟩ := hq
  rw [hx, hI]
  refine j_iconst (pc' := 221) (v := nI 1) dL_agrees_220 rfl rfl ?_
  refine j_icmpT_ne (tgt := 240) (hwf.2.2.2.1 (by omega)) dL_agrees_221 (by decide) ?_
  refine j_aload_n (pc' := 241) dL_agrees_240 rfl rfl ?_
  refine j_iload (pc' := 243) dL_agrees_241 rfl rfl ?_
  refine j_bipush (pc' := 245) (v := nI 13) dL_agrees_243 rfl rfl ?_
  refine j_cVi (pc' := 248) m_L_31 (p_point hD hV (by omega) (by omega) (a := v (176 + 56 * i + 13)) ((fPt_w hV.z h16 hi (show 13 < 15 from by omega)))) Kd (by decide) rfl rfl rfl ⟨Nat.le_of_ble_eq_true rfl, Nat.le_of_ble_eq_true rfl⟩ ⟨Nat.le_of_ble_eq_true rfl, Nat.le_of_ble_eq_true rfl⟩ (Nat.le_of_ble_eq_true rfl) dL_agrees_245 rfl (fun x1 J1 hq => ?_)
  obtain ⟨hx, hI⟩ := hq
  rw [hx, hI]
  refine jx_cut (B := jx_J E l cL_agrees 13 (some .boolean) RL false rmA 1 5 (fun v' n' kd' R' I' => v' = some (.int (nI 1)) ∧ LZ kd' R' I' d k T B) 1 5 n kd R I2 264 [some (.ref d), some (.int (nI k)), some (.ref a), some (.int ((cntF v 0 i) + (nI 1))), some (.int ((cntF v 6 i) + (nI 0))), some (.int ((cntF v 7 i) + (nI 1))), some (.int ((sm v i) + (v (176 + 56 * i + 14)))), some (.int (nI T)), some (.int (nI i)), some (.int (nI 4)), some (.int (nI 0)), some (.int (nI 0)), some (.int (nI 1))] []) (fun kk => ?_) ?_
  ·
    refine j_if_eq (pc' := 251) (tgt := 264) dL_agrees_248 rfl (by decide) (fun c248 => ?_) (fun c248 => ?_)
    ·
      exact kk
    ·
      refine j_aload_n (pc' := 252) dL_agrees_251 rfl rfl ?_
      refine j_iload (pc' := 254) dL_agrees_252 rfl rfl ?_
      refine j_bipush (pc' := 256) (v := nI 13) dL_agrees_254 rfl rfl ?_
      refine j_cVi (pc' := 259) m_L_31 (p_point hD hV (by omega) (by omega) (a := v (176 + 56 * i + 13)) ((fPt_w hV.z h16 hi (show 13 < 15 from by omega)))) Kd (by decide) rfl rfl rfl ⟨Nat.le_of_ble_eq_true rfl, Nat.le_of_ble_eq_true rfl⟩ ⟨Nat.le_of_ble_eq_true rfl, Nat.le_of_ble_eq_true rfl⟩ (Nat.le_of_ble_eq_true rfl) dL_agrees_256 rfl (fun x1 J1 hq => ?_)
      obtain ⟨hx, hI⟩ := hq
      rw [hx, hI]
      refine j_iload (pc' := 261) dL_agrees_259 rfl rfl ?_
      refine j_icmpF_le (pc' := 264) (tgt := 348) (hgtT c248) dL_agrees_261 (by decide) rfl ?_
      exact kk
  ·
    refine j_iload (pc' := 266) dL_agrees_264 rfl rfl ?_
    refine j_iconst (pc' := 267) (v := nI 1) dL_agrees_266 rfl rfl ?_
    refine j_icmpT_ne (tgt := 281) (by decide) dL_agrees_267 (by decide) ?_
    refine j_iload (pc' := 283) dL_agrees_281 rfl rfl ?_
    refine j_iconst (pc' := 284) (v := nI 2) dL_agrees_283 rfl rfl ?_
    refine j_icmpT_ne (tgt := 306) (by decide) dL_agrees_284 (by decide) ?_
    refine j_iload (pc' := 308) dL_agrees_306 rfl rfl ?_
    refine j_iconst (pc' := 309) (v := nI 3) dL_agrees_308 rfl rfl ?_
    refine j_icmpT_ne (tgt := 323) (by decide) dL_agrees_309 (by decide) ?_
    refine j_iload (pc' := 325) dL_agrees_323 rfl rfl ?_
    refine j_iconst (pc' := 326) (v := nI 4) dL_agrees_325 rfl rfl ?_
    refine j_icmpF_ne (pc' := 329) (tgt := 350) (by decide) dL_agrees_326 (by decide) rfl ?_
    refine j_aload_n (pc' := 330) dL_agrees_329 rfl rfl ?_
    refine j_iconst (pc' := 331) (v := nI 2) dL_agrees_330 rfl rfl ?_
    refine j_cVi (pc' := 334) m_L_44 (p_plant hD hV (by omega) (by omega) (a := v 3) (fPl_2)) Kd (by decide) rfl rfl rfl ⟨Nat.le_of_ble_eq_true rfl, Nat.le_of_ble_eq_true rfl⟩ ⟨Nat.le_of_ble_eq_true rfl, Nat.le_of_ble_eq_true rfl⟩ (Nat.le_of_ble_eq_true rfl) dL_agrees_331 rfl (fun x1 J1 hq => ?_)
    obtain ⟨hx, hI⟩ := hq
    rw [hx, hI]
    refine j_ifF_eq (pc' := 337) (tgt := 348) (by rw [(hwf.2.2.2.2.2.2 rfl).1]; decide) dL_agrees_334 (by decide) rfl ?_
    refine j_aload_n (pc' := 338) dL_agrees_337 rfl rfl ?_
    refine j_iload (pc' := 340) dL_agrees_338 rfl rfl ?_
    refine j_iconst (pc' := 341) (v := nI 5) dL_agrees_340 rfl rfl ?_
    refine j_cVi (pc' := 344) m_L_31 (p_point hD hV (by omega) (by omega) (a := v (176 + 56 * i + 5)) ((fPt_w hV.z h16 hi (show 5 < 15 from by omega)))) Kd (by decide) rfl rfl rfl ⟨Nat.le_of_ble_eq_true rfl, Nat.le_of_ble_eq_true rfl⟩ ⟨Nat.le_of_ble_eq_true rfl, Nat.le_of_ble_eq_true rfl⟩ (Nat.le_of_ble_eq_true rfl) dL_agrees_341 rfl (fun x1 J1 hq => ?_)
    obtain ⟨hx, hI⟩ := hq
    rw [hx, hI]
    refine j_iconst (pc' := 345) (v := nI 3) dL_agrees_344 rfl rfl ?_
    refine j_icmpT_ge (tgt := 350) (h35 (hwf.2.2.2.2.2.2 rfl).2) dL_agrees_345 (by decide) ?_
    refine j_aload_n (pc' := 351) dL_agrees_350 rfl rfl ?_
    refine j_iload (pc' := 353) dL_agrees_351 rfl rfl ?_
    refine j_bipush (pc' := 355) (v := nI 11) dL_agrees_353 rfl rfl ?_
    refine j_cVi (pc' := 358) m_L_31 (p_point hD hV (by omega) (by omega) (a := v (176 + 56 * i + 11)) ((fPt_w hV.z h16 hi (show 11 < 15 from by omega)))) Kd (by decide) rfl rfl rfl ⟨Nat.le_of_ble_eq_true rfl, Nat.le_of_ble_eq_true rfl⟩ ⟨Nat.le_of_ble_eq_true rfl, Nat.le_of_ble_eq_true rfl⟩ (Nat.le_of_ble_eq_true rfl) dL_agrees_355 rfl (fun x1 J1 hq => ?_)
    obtain ⟨hx, hI⟩ := hq
    rw [hx, hI]
    refine j_aload_n (pc' := 359) dL_agrees_358 rfl rfl ?_
    refine j_iload (pc' := 361) dL_agrees_359 rfl rfl ?_
    refine j_iload (pc' := 363) dL_agrees_361 rfl rfl ?_
    refine j_ifT_eq (tgt := 370) (by decide) dL_agrees_363 (by decide) ?_
    refine j_iconst (pc' := 371) (v := nI 3) dL_agrees_370 rfl rfl ?_
    refine j_cVi (pc' := 374) m_L_31 (p_point hD hV (by omega) (by omega) (a := v (176 + 56 * i + 3)) ((fPt_w hV.z h16 hi (show 3 < 15 from by omega)))) Kd (by decide) rfl rfl rfl ⟨Nat.le_of_ble_eq_true rfl, Nat.le_of_ble_eq_true rfl⟩ ⟨Nat.le_of_ble_eq_true rfl, Nat.le_of_ble_eq_true rfl⟩ (Nat.le_of_ble_eq_true rfl) dL_agrees_371 rfl (fun x1 J1 hq => ?_)
    obtain ⟨hx, hI⟩ := hq
    rw [hx, hI]
    refine jx_cut (B := jx_J E l cL_agrees 13 (some .boolean) RL false rmA 1 5 (fun v' n' kd' R' I' => v' = some (.int (nI 1)) ∧ LZ kd' R' I' d k T B) 1 5 n kd R I2 390 [some (.ref d), some (.int (nI k)), some (.ref a), some (.int ((cntF v 0 i) + (nI 1))), some (.int ((cntF v 6 i) + (nI 0))), some (.int ((cntF v 7 i) + (nI 1))), some (.int ((sm v i) + (v (176 + 56 * i + 14)))), some (.int (nI T)), some (.int (nI i)), some (.int (nI 4)), some (.int (nI 0)), some (.int (nI 0)), some (.int (nI 1))] []) (fun kk => ?_) ?_
    ·
      refine j_icmp_le (pc' := 377) (tgt := 390) dL_agrees_374 rfl (by decide) (fun c374 => ?_) (fun c374 => ?_)
      ·
        exact kk
      ·
        refine j_aload_n (pc' := 378) dL_agrees_377 rfl rfl ?_
        refine j_iload (pc' := 380) dL_agrees_378 rfl rfl ?_
        refine j_bipush (pc' := 382) (v := nI 11) dL_agrees_380 rfl rfl ?_
        refine j_cVi (pc' := 385) m_L_31 (p_point hD hV (by omega) (by omega) (a := nI c) ((fPt_w hV.z h16 hi (show 11 < 15 from by omega)).trans (e11))) Kd (by decide) rfl rfl rfl ⟨Nat.le_of_ble_eq_true rfl, Nat.le_of_ble_eq_true rfl⟩ ⟨Nat.le_of_ble_eq_true rfl, Nat.le_of_ble_eq_true rfl⟩ (Nat.le_of_ble_eq_true rfl) dL_agrees_382 rfl (fun x1 J1 hq => ?_)
        obtain ⟨hx, hI⟩ := hq
        rw [hx, hI]
        refine j_bipush (pc' := 387) (v := nI 20) dL_agrees_385 rfl rfl ?_
        refine j_icmpF_gt (pc' := 390) (tgt := 454) (nI_nlt (by omega) (by omega)) dL_agrees_387 (by decide) rfl ?_
        exact kk
    ·
      refine j_aload_n (pc' := 391) dL_agrees_390 rfl rfl ?_
      refine j_iload (pc' := 393) dL_agrees_391 rfl rfl ?_
      refine j_bipush (pc' := 395) (v := nI 12) dL_agrees_393 rfl rfl ?_
      refine j_cVi (pc' := 398) m_L_31 (p_point hD hV (by omega) (by omega) (a := nI ll) ((fPt_w hV.z h16 hi (show 12 < 15 from by omega)).trans (e12))) Kd (by decide) rfl rfl rfl ⟨Nat.le_of_ble_eq_true rfl, Nat.le_of_ble_eq_true rfl⟩ ⟨Nat.le_of_ble_eq_true rfl, Nat.le_of_ble_eq_true rfl⟩ (Nat.le_of_ble_eq_true rfl) dL_agrees_395 rfl (fun x1 J1 hq => ?_)
      obtain ⟨hx, hI⟩ := hq
      rw [hx, hI]
      refine j_iload (pc' := 400) dL_agrees_398 rfl rfl ?_
      refine j_icmpF_gt (pc' := 403) (tgt := 454) (nI_nlt (by omega) (by omega)) dL_agrees_400 (by decide) rfl ?_
      refine j_aload_n (pc' := 404) dL_agrees_403 rfl rfl ?_
      refine j_iload (pc' := 406) dL_agrees_404 rfl rfl ?_
      refine j_bipush (pc' := 408) (v := nI 14) dL_agrees_406 rfl rfl ?_
      refine j_cVi (pc' := 411) m_L_31 (p_point hD hV (by omega) (by omega) (a := v (176 + 56 * i + 14)) ((fPt_w hV.z h16 hi (show 14 < 15 from by omega)))) Kd (by decide) rfl rfl rfl ⟨Nat.le_of_ble_eq_true rfl, Nat.le_of_ble_eq_true rfl⟩ ⟨Nat.le_of_ble_eq_true rfl, Nat.le_of_ble_eq_true rfl⟩ (Nat.le_of_ble_eq_true rfl) dL_agrees_408 rfl (fun x1 J1 hq => ?_)
      obtain ⟨hx, hI⟩ := hq
      rw [hx, hI]
      refine jx_cut (B := jx_J E l cL_agrees 13 (some .boolean) RL false rmA 1 5 (fun v' n' kd' R' I' => v' = some (.int (nI 1)) ∧ LZ kd' R' I' d k T B) 1 5 n kd R I2 438 [some (.ref d), some (.int (nI k)), some (.ref a), some (.int ((cntF v 0 i) + (nI 1))), some (.int ((cntF v 6 i) + (nI 0))), some (.int ((cntF v 7 i) + (nI 1))), some (.int ((sm v i) + (v (176 + 56 * i + 14)))), some (.int (nI T)), some (.int (nI i)), some (.int (nI 4)), some (.int (nI 0)), some (.int (nI 0)), some (.int (nI 1))] []) (fun kk => ?_) ?_
      ·
        refine j_if_ne (pc' := 414) (tgt := 418) dL_agrees_411 rfl (by decide) (fun c411 => ?_) (fun c411 => ?_)
        ·
          refine j_iconst (pc' := 419) (v := nI 0) dL_agrees_418 rfl rfl ?_
          refine j_aload_n (pc' := 420) dL_agrees_419 rfl rfl ?_
          refine j_iload (pc' := 422) dL_agrees_420 rfl rfl ?_
          refine j_bipush (pc' := 424) (v := nI 12) dL_agrees_422 rfl rfl ?_
          refine j_cVi (pc' := 427) m_L_31 (p_point hD hV (by omega) (by omega) (a := v (176 + 56 * i + 12)) ((fPt_w hV.z h16 hi (show 12 < 15 from by omega)))) Kd (by decide) rfl rfl rfl ⟨Nat.le_of_ble_eq_true rfl, Nat.le_of_ble_eq_true rfl⟩ ⟨Nat.le_of_ble_eq_true rfl, Nat.le_of_ble_eq_true rfl⟩ (Nat.le_of_ble_eq_true rfl) dL_agrees_424 rfl (fun x1 J1 hq => ?_)
          obtain ⟨hx, hI⟩ := hq
          rw [hx, hI]
          refine j_ifT_ne (tgt := 434) (fun z => c411 (h14.mpr z)) dL_agrees_427 (by decide) ?_
          refine j_iconst (pc' := 435) (v := nI 0) dL_agrees_434 rfl rfl ?_
          refine j_icmpF_ne (pc' := 438) (tgt := 454) (by decide) dL_agrees_435 (by decide) rfl ?_
          exact kk
        ·
          refine j_iconst (pc' := 415) (v := nI 1) dL_agrees_414 rfl rfl ?_
          refine j_goto (tgt := 419) dL_agrees_415 (by decide) ?_
          refine j_aload_n (pc' := 420) dL_agrees_419 rfl rfl ?_
          refine j_iload (pc' := 422) dL_agrees_420 rfl rfl ?_
          refine j_bipush (pc' := 424) (v := nI 12) dL_agrees_422 rfl rfl ?_
          refine j_cVi (pc' := 427) m_L_31 (p_point hD hV (by omega) (by omega) (a := v (176 + 56 * i + 12)) ((fPt_w hV.z h16 hi (show 12 < 15 from by omega)))) Kd (by decide) rfl rfl rfl ⟨Nat.le_of_ble_eq_true rfl, Nat.le_of_ble_eq_true rfl⟩ ⟨Nat.le_of_ble_eq_true rfl, Nat.le_of_ble_eq_true rfl⟩ (Nat.le_of_ble_eq_true rfl) dL_agrees_424 rfl (fun x1 J1 hq => ?_)
          obtain ⟨hx, hI⟩ := hq
          rw [hx, hI]
          refine j_ifF_ne (pc' := 430) (tgt := 434) (h14.mp c411) dL_agrees_427 (by decide) rfl ?_
          refine j_iconst (pc' := 431) (v := nI 1) dL_agrees_430 rfl rfl ?_
          refine j_goto (tgt := 435) dL_agrees_431 (by decide) ?_
          refine j_icmpF_ne (pc' := 438) (tgt := 454) (by decide) dL_agrees_435 (by decide) rfl ?_
          exact kk
      ·
        refine j_aload_n (pc' := 439) dL_agrees_438 rfl rfl ?_
        refine j_iload (pc' := 441) dL_agrees_439 rfl rfl ?_
        refine j_bipush (pc' := 443) (v := nI 14) dL_agrees_441 rfl rfl ?_
        refine j_cVi (pc' := 446) m_L_31 (p_point hD hV (by omega) (by omega) (a := v (176 + 56 * i + 14)) ((fPt_w hV.z h16 hi (show 14 < 15 from by omega)))) Kd (by decide) rfl rfl rfl ⟨Nat.le_of_ble_eq_true rfl, Nat.le_of_ble_eq_true rfl⟩ ⟨Nat.le_of_ble_eq_true rfl, Nat.le_of_ble_eq_true rfl⟩ (Nat.le_of_ble_eq_true rfl) dL_agrees_443 rfl (fun x1 J1 hq => ?_)
        obtain ⟨hx, hI⟩ := hq
        rw [hx, hI]
        refine jx_cut (B := jx_J E l cL_agrees 13 (some .boolean) RL false rmA 1 5 (fun v' n' kd' R' I' => v' = some (.int (nI 1)) ∧ LZ kd' R' I' d k T B) 1 5 n kd R I2 456 [some (.ref d), some (.int (nI k)), some (.ref a), some (.int ((cntF v 0 i) + (nI 1))), some (.int ((cntF v 6 i) + (nI 0))), some (.int ((cntF v 7 i) + (nI 1))), some (.int ((sm v i) + (v (176 + 56 * i + 14)))), some (.int (nI T)), some (.int (nI i)), some (.int (nI 4)), some (.int (nI 0)), some (.int (nI 0)), some (.int (nI 1))] []) (fun kk => ?_) ?_
        ·
          refine j_if_ne (pc' := 449) (tgt := 456) dL_agrees_446 rfl (by decide) (fun c446 => ?_) (fun c446 => ?_)
          ·
            exact kk
          ·
            exact absurd (hal c446) (by rw [h9, h10]; decide)
        ·
          refine j_iincN (pc' := 459) (lv' := [_, _, _, _, _, _, _, _, _, _, _, _, _]) dL_agrees_456 rfl rfl (by decide) rfl ?_
          refine j_goto (tgt := 25) dL_agrees_459 (by decide) ?_
          have e0 : cntF v 0 (i + 1) = cntF v 0 i + nI 1 := cnt_t (by rw [cC0]; exact hst)
          have e6 : cntF v 6 (i + 1) = cntF v 6 i + nI 0 := cnt_f (by rw [cC6]; exact decide_eq_false (fun z => z hsh))
          have e7 : cntF v 7 (i + 1) = cntF v 7 i + nI 1 := cnt_t (by rw [cC7]; exact decide_eq_true h10)
          refine j_eqLA e0 e6 e7 ?_
          exact ih (i + 1) I2 _ _ _ _ (by omega) (by omega) hD hA2
set_option maxRecDepth 100000 in
set_option maxHeartbeats 4000000 in
theorem ag_01_n0 {E : jx_E} {l : Launch} {n : Nat} {kd : jx_K} {R : jx_R} {d : Nat} {v p : Nat → Int32} {q B k T S N : Nat} {i a : Nat} {I : jx_I} {y9 y10 y11 y12 : Option Value} (hV : VI v k T S N) (hN : N ≤ B) (hB : B + 100000 < 2147483000) (hP : PI v k T) (hi : i < k) (hka : kd a = (7, 5)) (hda : d + 344 ≤ a) (ih : ∀ (j : Nat) (I : jx_I) (y9 y10 y11 y12 : Option Value), i < j → j ≤ k → DK kd R I d v p q B → (∀ w, w < 5 → I a w = cntF v (w + 1) j) → jx_J E l cL_agrees 13 (some .boolean) RL false rmA 1 5 (fun v' n' kd' R' I' => v' = some (.int (nI 1)) ∧ LZ kd' R' I' d k T B) 1 5 n kd R I 25 [some (.ref d), some (.int (nI k)), some (.ref a), some (.int (cntF v 0 j)), some (.int (cntF v 6 j)), some (.int (cntF v 7 j)), some (.int (sm v j)), some (.int (nI T)), some (.int (nI j)), y9, y10, y11, y12] []) (hD : DK kd R I d v p q B) (hA : ∀ w, w < 5 → I a w = cntF v (w + 1) i) (h9 : v (176 + 56 * i + 9) = nI 0) (h10 : v (176 + 56 * i + 10) = nI 1) (hst : sStand v i = false) (hw0 : sWhy v i = -20009) (hsh : v (176 + 56 * i + 13) ≤ 0) : jx_J E l cL_agrees 13 (some .boolean) RL false rmA 1 5 (fun v' n' kd' R' I' => v' = some (.int (nI 1)) ∧ LZ kd' R' I' d k T B) 1 5 n kd R I 25 [some (.ref d), some (.int (nI k)), some (.ref a), some (.int (cntF v 0 i)), some (.int (cntF v 6 i)), some (.int (cntF v 7 i)), some (.int (sm v i)), some (.int (nI T)), some (.int (nI i)), y9, y10, y11, y12] [] := by
  have h16 := hV.k16
  have Kd := hD.k5
  have hT := hV.tl
  obtain ⟨hp1, hp2⟩ := hP.1 i hi
  obtain ⟨⟨c, hc, e11⟩, aa, ll, haa, hll, e14, e12, hal0, hz⟩ := hp1
  have h14 : v (176 + 56 * i + 14) = 0 ↔ v (176 + 56 * i + 12) = 0 := by
    rw [e14, e12]
    have x1 := nI_eq (show aa < 2 ^ 31 from by omega) (show 0 < 2 ^ 31 from by omega)
    have x2 := nI_eq (show ll < 2 ^ 31 from by omega) (show 0 < 2 ^ 31 from by omega)
    exact x1.trans (hal0.trans x2.symm)
  have hal : v (176 + 56 * i + 14) = 0 → v (176 + 56 * i + 9) = nI 0 ∧ v (176 + 56 * i + 10) = nI 1 := fun z => hz ((nI_eq (show aa < 2 ^ 31 from by omega) (show 0 < 2 ^ 31 from by omega)).mp (e14.symm.trans z))
  have hgtT : ¬ v (176 + 56 * i + 13) = 0 → ¬ v (176 + 56 * i + 13) ≤ nI T := by
    intro z
    rcases hp2.2 with e | ⟨u, hu, hu2, e⟩
    · exact absurd e z
    · rw [e]; exact nI_ge hu (by omega)
  refine j_iload (pc' := 27) dL_agrees_25 rfl rfl ?_
  refine j_iload_n (pc' := 28) dL_agrees_27 rfl rfl ?_
  refine j_icmpF_ge (pc' := 31) (tgt := 462) (nI_ge hi (by omega)) dL_agrees_28 (by decide) rfl ?_
  refine j_aload_n (pc' := 32) dL_agrees_31 rfl rfl ?_
  refine j_iload (pc' := 34) dL_agrees_32 rfl rfl ?_
  refine j_bipush (pc' := 36) (v := nI 15) dL_agrees_34 rfl rfl ?_
  refine j_cVi (pc' := 39) m_L_31 (p_point hD hV (by omega) (by omega) (a := (-20009)) ((fPt_15 hV.z h16 hi).trans hw0)) Kd (by decide) rfl rfl rfl ⟨Nat.le_of_ble_eq_true rfl, Nat.le_of_ble_eq_true rfl⟩ ⟨Nat.le_of_ble_eq_true rfl, Nat.le_of_ble_eq_true rfl⟩ (Nat.le_of_ble_eq_true rfl) dL_agrees_36 rfl (fun x1 J1 hq => ?_)
  obtain ⟨hx, hI⟩ := hq
  rw [hx, hI]
  refine j_istore (pc' := 41) (lv' := [_, _, _, _, _, _, _, _, _, _, _, _, _]) dL_agrees_39 rfl (by decide) rfl ?_
  refine j_aload_n (pc' := 42) dL_agrees_41 rfl rfl ?_
  refine j_iload (pc' := 44) dL_agrees_42 rfl rfl ?_
  refine j_bipush (pc' := 46) (v := nI 9) dL_agrees_44 rfl rfl ?_
  refine j_cVi (pc' := 49) m_L_31 (p_point hD hV (by omega) (by omega) (a := nI 0) ((fPt_w hV.z h16 hi (show 9 < 15 from by omega)).trans (h9))) Kd (by decide) rfl rfl rfl ⟨Nat.le_of_ble_eq_true rfl, Nat.le_of_ble_eq_true rfl⟩ ⟨Nat.le_of_ble_eq_true rfl, Nat.le_of_ble_eq_true rfl⟩ (Nat.le_of_ble_eq_true rfl) dL_agrees_46 rfl (fun x1 J1 hq => ?_)
  obtain ⟨hx, hI⟩ := hq
  rw [hx, hI]
  refine j_iconst (pc' := 50) (v := nI 1) dL_agrees_49 rfl rfl ?_
  refine j_icmpT_ne (tgt := 57) (by decide) dL_agrees_50 (by decide) ?_
  refine j_iconst (pc' := 58) (v := nI 0) dL_agrees_57 rfl rfl ?_
  refine j_istore (pc' := 60) (lv' := [_, _, _, _, _, _, _, _, _, _, _, _, _]) dL_agrees_58 rfl (by decide) rfl ?_
  refine j_aload_n (pc' := 61) dL_agrees_60 rfl rfl ?_
  refine j_iload (pc' := 63) dL_agrees_61 rfl rfl ?_
  refine j_bipush (pc' := 65) (v := nI 10) dL_agrees_63 rfl rfl ?_
  refine j_cVi (pc' := 68) m_L_31 (p_point hD hV (by omega) (by omega) (a := nI 1) ((fPt_w hV.z h16 hi (show 10 < 15 from by omega)).trans (h10))) Kd (by decide) rfl rfl rfl ⟨Nat.le_of_ble_eq_true rfl, Nat.le_of_ble_eq_true rfl⟩ ⟨Nat.le_of_ble_eq_true rfl, Nat.le_of_ble_eq_true rfl⟩ (Nat.le_of_ble_eq_true rfl) dL_agrees_65 rfl (fun x1 J1 hq => ?_)
  obtain ⟨hx, hI⟩ := hq
  rw [hx, hI]
  refine j_iconst (pc' := 69) (v := nI 1) dL_agrees_68 rfl rfl ?_
  refine j_icmpF_ne (pc' := 72) (tgt := 76) (by decide) dL_agrees_69 (by decide) rfl ?_
  refine j_iconst (pc' := 73) (v := nI 1) dL_agrees_72 rfl rfl ?_
  refine j_goto (tgt := 77) dL_agrees_73 (by decide) ?_
  refine j_istore (pc' := 79) (lv' := [_, _, _, _, _, _, _, _, _, _, _, _, _]) dL_agrees_77 rfl (by decide) rfl ?_
  refine j_iload (pc' := 81) dL_agrees_79 rfl rfl ?_
  refine j_ifF_ne (pc' := 84) (tgt := 89) (by decide) dL_agrees_81 (by decide) rfl ?_
  refine j_iload (pc' := 86) dL_agrees_84 rfl rfl ?_
  refine j_ifT_ne (tgt := 93) (by decide) dL_agrees_86 (by decide) ?_
  refine j_iconst (pc' := 94) (v := nI 0) dL_agrees_93 rfl rfl ?_
  refine j_istore (pc' := 96) (lv' := [_, _, _, _, _, _, _, _, _, _, _, _, _]) dL_agrees_94 rfl (by decide) rfl ?_
  refine j_iload_n (pc' := 97) dL_agrees_96 rfl rfl ?_
  refine j_iload (pc' := 99) dL_agrees_97 rfl rfl ?_
  refine j_ifT_eq (tgt := 106) (by decide) dL_agrees_99 (by decide) ?_
  refine j_iconst (pc' := 107) (v := nI 0) dL_agrees_106 rfl rfl ?_
  refine j_iadd (pc' := 108) dL_agrees_107 rfl ?_
  refine j_istore_n (pc' := 109) (lv' := [_, _, _, _, _, _, _, _, _, _, _, _, _]) dL_agrees_108 rfl (by decide) rfl ?_
  refine j_iload (pc' := 111) dL_agrees_109 rfl rfl ?_
  refine j_aload_n (pc' := 112) dL_agrees_111 rfl rfl ?_
  refine j_iload (pc' := 114) dL_agrees_112 rfl rfl ?_
  refine j_bipush (pc' := 116) (v := nI 13) dL_agrees_114 rfl rfl ?_
  refine j_cVi (pc' := 119) m_L_31 (p_point hD hV (by omega) (by omega) (a := v (176 + 56 * i + 13)) ((fPt_w hV.z h16 hi (show 13 < 15 from by omega)))) Kd (by decide) rfl rfl rfl ⟨Nat.le_of_ble_eq_true rfl, Nat.le_of_ble_eq_true rfl⟩ ⟨Nat.le_of_ble_eq_true rfl, Nat.le_of_ble_eq_true rfl⟩ (Nat.le_of_ble_eq_true rfl) dL_agrees_116 rfl (fun x1 J1 hq => ?_)
  obtain ⟨hx, hI⟩ := hq
  rw [hx, hI]
  refine j_ifT_le (tgt := 126) (hsh) dL_agrees_119 (by decide) ?_
  refine j_iconst (pc' := 127) (v := nI 0) dL_agrees_126 rfl rfl ?_
  refine j_iadd (pc' := 128) dL_agrees_127 rfl ?_
  refine j_istore (pc' := 130) (lv' := [_, _, _, _, _, _, _, _, _, _, _, _, _]) dL_agrees_128 rfl (by decide) rfl ?_
  refine j_iload (pc' := 132) dL_agrees_130 rfl rfl ?_
  refine j_iload (pc' := 134) dL_agrees_132 rfl rfl ?_
  refine j_ifF_eq (pc' := 137) (tgt := 141) (by decide) dL_agrees_134 (by decide) rfl ?_
  refine j_iconst (pc' := 138) (v := nI 0) dL_agrees_137 rfl rfl ?_
  refine j_goto (tgt := 142) dL_agrees_138 (by decide) ?_
  refine j_iadd (pc' := 143) dL_agrees_142 rfl ?_
  refine j_istore (pc' := 145) (lv' := [_, _, _, _, _, _, _, _, _, _, _, _, _]) dL_agrees_143 rfl (by decide) rfl ?_
  refine j_iload (pc' := 147) dL_agrees_145 rfl rfl ?_
  refine j_aload_n (pc' := 148) dL_agrees_147 rfl rfl ?_
  refine j_iload (pc' := 150) dL_agrees_148 rfl rfl ?_
  refine j_bipush (pc' := 152) (v := nI 14) dL_agrees_150 rfl rfl ?_
  refine j_cVi (pc' := 155) m_L_31 (p_point hD hV (by omega) (by omega) (a := v (176 + 56 * i + 14)) ((fPt_w hV.z h16 hi (show 14 < 15 from by omega)))) Kd (by decide) rfl rfl rfl ⟨Nat.le_of_ble_eq_true rfl, Nat.le_of_ble_eq_true rfl⟩ ⟨Nat.le_of_ble_eq_true rfl, Nat.le_of_ble_eq_true rfl⟩ (Nat.le_of_ble_eq_true rfl) dL_agrees_152 rfl (fun x1 J1 hq => ?_)
  obtain ⟨hx, hI⟩ := hq
  rw [hx, hI]
  refine j_iadd (pc' := 156) dL_agrees_155 rfl ?_
  refine j_istore (pc' := 158) (lv' := [_, _, _, _, _, _, _, _, _, _, _, _, _]) dL_agrees_156 rfl (by decide) rfl ?_
  refine j_iload (pc' := 160) dL_agrees_158 rfl rfl ?_
  refine j_ifT_eq (tgt := 177) (by decide) dL_agrees_160 (by decide) ?_
  refine j_iload (pc' := 179) dL_agrees_177 rfl rfl ?_
  refine j_sipush (pc' := 182) (v := (-20009)) dL_agrees_179 rfl rfl ?_
  refine j_icmpT_eq (tgt := 187) (by decide) dL_agrees_182 (by decide) ?_
  refine j_aload_n (pc' := 188) dL_agrees_187 rfl rfl ?_
  refine j_iload (pc' := 190) dL_agrees_188 rfl rfl ?_
  refine j_ifF_ge (pc' := 193) (tgt := 197) (by decide) dL_agrees_190 (by decide) rfl ?_
  refine j_iconst (pc' := 194) (v := nI 0) dL_agrees_193 rfl rfl ?_
  refine j_goto (tgt := 199) dL_agrees_194 (by decide) ?_
  refine j_dup2 (pc' := 200) dL_agrees_199 rfl rfl rfl ?_
  refine j_ialdv (pc' := 201) hka rfl (by decide) (by decide) (hA _ (by decide)) dL_agrees_200 rfl ?_
  refine j_iload (pc' := 203) dL_agrees_201 rfl rfl ?_
  refine j_ifT_eq (tgt := 210) (by decide) dL_agrees_203 (by decide) ?_
  refine j_iconst (pc' := 211) (v := nI 0) dL_agrees_210 rfl rfl ?_
  refine j_iadd (pc' := 212) dL_agrees_211 rfl ?_
  refine j_iast (pc' := 213) hka rfl (by decide) (by decide) dL_agrees_212 rfl ?_
  have hD2 := hD.upA (j := 0) (x := cntF v 1 i + nI 0) hda
  have hA2 := why_up0 (a := a) hw0 hA
  change jx_J E l cL_agrees 13 (some .boolean) RL false rmA 1 5 (fun v' n' kd' R' I' => v' = some (.int (nI 1)) ∧ LZ kd' R' I' d k T B) 1 5 n kd R (jx_up I a 0 (cntF v 1 i + nI 0)) 213 _ _
  generalize jx_up I a 0 (cntF v 1 i + nI 0) = I2 at hD2 hA2 ⊢
  have hD := hD2
  refine j_aload_n (pc' := 214) dL_agrees_213 rfl rfl ?_
  refine j_iload (pc' := 216) dL_agrees_214 rfl rfl ?_
  refine j_iconst (pc' := 217) (v := nI 5) dL_agrees_216 rfl rfl ?_
  refine j_cVi (pc' := 220) m_L_31 (p_point hD hV (by omega) (by omega) (a := v (176 + 56 * i + 5)) ((fPt_w hV.z h16 hi (show 5 < 15 from by omega)))) Kd (by decide) rfl rfl rfl ⟨Nat.le_of_ble_eq_true rfl, Nat.le_of_ble_eq_true rfl⟩ ⟨Nat.le_of_ble_eq_true rfl, Nat.le_of_ble_eq_true rfl⟩ (Nat.le_of_ble_eq_true rfl) dL_agrees_217 rfl (fun x1 J1 hq => ?_)
  obtain ⟨hx, hI⟩ := hq
  rw [hx, hI]
  refine j_iconst (pc' := 221) (v := nI 1) dL_agrees_220 rfl rfl ?_
  refine jx_cut (B := jx_J E l cL_agrees 13 (some .boolean) RL false rmA 1 5 (fun v' n' kd' R' I' => v' = some (.int (nI 1)) ∧ LZ kd' R' I' d k T B) 1 5 n kd R I2 240 [some (.ref d), some (.int (nI k)), some (.ref a), some (.int ((cntF v 0 i) + (nI 0))), some (.int ((cntF v 6 i) + (nI 0))), some (.int ((cntF v 7 i) + (nI 0))), some (.int ((sm v i) + (v (176 + 56 * i + 14)))), some (.int (nI T)), some (.int (nI i)), some (.int ((-20009))), some (.int (nI 0)), some (.int (nI 1)), some (.int (nI 0))] []) (fun kk => ?_) ?_
  ·
    refine j_icmp_ne (pc' := 224) (tgt := 240) dL_agrees_221 rfl (by decide) (fun c221 => ?_) (fun c221 => ?_)
    ·
      exact kk
    ·
      refine j_iload (pc' := 226) dL_agrees_224 rfl rfl ?_
      refine j_ifF_gt (pc' := 229) (tgt := 348) (by decide) dL_agrees_226 (by decide) rfl ?_
      refine j_aload_n (pc' := 230) dL_agrees_229 rfl rfl ?_
      refine j_iload (pc' := 232) dL_agrees_230 rfl rfl ?_
      refine j_bipush (pc' := 234) (v := nI 13) dL_agrees_232 rfl rfl ?_
      refine j_cVi (pc' := 237) m_L_31 (p_point hD hV (by omega) (by omega) (a := v (176 + 56 * i + 13)) ((fPt_w hV.z h16 hi (show 13 < 15 from by omega)))) Kd (by decide) rfl rfl rfl ⟨Nat.le_of_ble_eq_true rfl, Nat.le_of_ble_eq_true rfl⟩ ⟨Nat.le_of_ble_eq_true rfl, Nat.le_of_ble_eq_true rfl⟩ (Nat.le_of_ble_eq_true rfl) dL_agrees_234 rfl (fun x1 J1 hq => ?_)
      obtain ⟨hx, hI⟩ := hq
      rw [hx, hI]
      refine j_ifF_ne (pc' := 240) (tgt := 348) (hp2.1 c221) dL_agrees_237 (by decide) rfl ?_
      exact kk
  ·
    refine j_aload_n (pc' := 241) dL_agrees_240 rfl rfl ?_
    refine j_iload (pc' := 243) dL_agrees_241 rfl rfl ?_
    refine j_bipush (pc' := 245) (v := nI 13) dL_agrees_243 rfl rfl ?_
    refine j_cVi (pc' := 248) m_L_31 (p_point hD hV (by omega) (by omega) (a := v (176 + 56 * i + 13)) ((fPt_w hV.z h16 hi (show 13 < 15 from by omega)))) Kd (by decide) rfl rfl rfl ⟨Nat.le_of_ble_eq_true rfl, Nat.le_of_ble_eq_true rfl⟩ ⟨Nat.le_of_ble_eq_true rfl, Nat.le_of_ble_eq_true rfl⟩ (Nat.le_of_ble_eq_true rfl) dL_agrees_245 rfl (fun x1 J1 hq => ?_)
    obtain ⟨hx, hI⟩ := hq
    rw [hx, hI]
    refine jx_cut (B := jx_J E l cL_agrees 13 (some .boolean) RL false rmA 1 5 (fun v' n' kd' R' I' => v' = some (.int (nI 1)) ∧ LZ kd' R' I' d k T B) 1 5 n kd R I2 264 [some (.ref d), some (.int (nI k)), some (.ref a), some (.int ((cntF v 0 i) + (nI 0))), some (.int ((cntF v 6 i) + (nI 0))), some (.int ((cntF v 7 i) + (nI 0))), some (.int ((sm v i) + (v (176 + 56 * i + 14)))), some (.int (nI T)), some (.int (nI i)), some (.int ((-20009))), some (.int (nI 0)), some (.int (nI 1)), some (.int (nI 0))] []) (fun kk => ?_) ?_
    ·
      refine j_if_eq (pc' := 251) (tgt := 264) dL_agrees_248 rfl (by decide) (fun c248 => ?_) (fun c248 => ?_)
      ·
        exact kk
      ·
        refine j_aload_n (pc' := 252) dL_agrees_251 rfl rfl ?_
        refine j_iload (pc' := 254) dL_agrees_252 rfl rfl ?_
        refine j_bipush (pc' := 256) (v := nI 13) dL_agrees_254 rfl rfl ?_
        refine j_cVi (pc' := 259) m_L_31 (p_point hD hV (by omega) (by omega) (a := v (176 + 56 * i + 13)) ((fPt_w hV.z h16 hi (show 13 < 15 from by omega)))) Kd (by decide) rfl rfl rfl ⟨Nat.le_of_ble_eq_true rfl, Nat.le_of_ble_eq_true rfl⟩ ⟨Nat.le_of_ble_eq_true rfl, Nat.le_of_ble_eq_true rfl⟩ (Nat.le_of_ble_eq_true rfl) dL_agrees_256 rfl (fun x1 J1 hq => ?_)
        obtain ⟨hx, hI⟩ := hq
        rw [hx, hI]
        refine j_iload (pc' := 261) dL_agrees_259 rfl rfl ?_
        refine j_icmpF_le (pc' := 264) (tgt := 348) (hgtT c248) dL_agrees_261 (by decide) rfl ?_
        exact kk
    ·
      refine j_iload (pc' := 266) dL_agrees_264 rfl rfl ?_
      refine j_iconst (pc' := 267) (v := nI 1) dL_agrees_266 rfl rfl ?_
      refine j_icmpT_ne (tgt := 281) (by decide) dL_agrees_267 (by decide) ?_
      refine j_iload (pc' := 283) dL_agrees_281 rfl rfl ?_
      refine j_iconst (pc' := 284) (v := nI 2) dL_agrees_283 rfl rfl ?_
      refine j_icmpT_ne (tgt := 306) (by decide) dL_agrees_284 (by decide) ?_
      refine j_iload (pc' := 308) dL_agrees_306 rfl rfl ?_
      refine j_iconst (pc' := 309) (v := nI 3) dL_agrees_308 rfl rfl ?_
      refine j_icmpT_ne (tgt := 323) (by decide) dL_agrees_309 (by decide) ?_
      refine j_iload (pc' := 325) dL_agrees_323 rfl rfl ?_
      refine j_iconst (pc' := 326) (v := nI 4) dL_agrees_325 rfl rfl ?_
      refine j_icmpT_ne (tgt := 350) (by decide) dL_agrees_326 (by decide) ?_
      refine j_aload_n (pc' := 351) dL_agrees_350 rfl rfl ?_
      refine j_iload (pc' := 353) dL_agrees_351 rfl rfl ?_
      refine j_bipush (pc' := 355) (v := nI 11) dL_agrees_353 rfl rfl ?_
      refine j_cVi (pc' := 358) m_L_31 (p_point hD hV (by omega) (by omega) (a := v (176 + 56 * i + 11)) ((fPt_w hV.z h16 hi (show 11 < 15 from by omega)))) Kd (by decide) rfl rfl rfl ⟨Nat.le_of_ble_eq_true rfl, Nat.le_of_ble_eq_true rfl⟩ ⟨Nat.le_of_ble_eq_true rfl, Nat.le_of_ble_eq_true rfl⟩ (Nat.le_of_ble_eq_true rfl) dL_agrees_355 rfl (fun x1 J1 hq => ?_)
      obtain ⟨hx, hI⟩ := hq
      rw [hx, hI]
      refine j_aload_n (pc' := 359) dL_agrees_358 rfl rfl ?_
      refine j_iload (pc' := 361) dL_agrees_359 rfl rfl ?_
      refine j_iload (pc' := 363) dL_agrees_361 rfl rfl ?_
      refine j_ifT_eq (tgt := 370) (by decide) dL_agrees_363 (by decide) ?_
      refine j_iconst (pc' := 371) (v := nI 3) dL_agrees_370 rfl rfl ?_
      refine j_cVi (pc' := 374) m_L_31 (p_point hD hV (by omega) (by omega) (a := v (176 + 56 * i + 3)) ((fPt_w hV.z h16 hi (show 3 < 15 from by omega)))) Kd (by decide) rfl rfl rfl ⟨Nat.le_of_ble_eq_true rfl, Nat.le_of_ble_eq_true rfl⟩ ⟨Nat.le_of_ble_eq_true rfl, Nat.le_of_ble_eq_true rfl⟩ (Nat.le_of_ble_eq_true rfl) dL_agrees_371 rfl (fun x1 J1 hq => ?_)
      obtain ⟨hx, hI⟩ := hq
      rw [hx, hI]
      refine jx_cut (B := jx_J E l cL_agrees 13 (some .boolean) RL false rmA 1 5 (fun v' n' kd' R' I' => v' = some (.int (nI 1)) ∧ LZ kd' R' I' d k T B) 1 5 n kd R I2 390 [some (.ref d), some (.int (nI k)), some (.ref a), some (.int ((cntF v 0 i) + (nI 0))), some (.int ((cntF v 6 i) + (nI 0))), some (.int ((cntF v 7 i) + (nI 0))), some (.int ((sm v i) + (v (176 + 56 * i + 14)))), some (.int (nI T)), some (.int (nI i)), some (.int ((-20009))), some (.int (nI 0)), some (.int (nI 1)), some (.int (nI 0))] []) (fun kk => ?_) ?_
      ·
        refine j_icmp_le (pc' := 377) (tgt := 390) dL_agrees_374 rfl (by decide) (fun c374 => ?_) (fun c374 => ?_)
        ·
          exact kk
        ·
          refine j_aload_n (pc' := 378) dL_agrees_377 rfl rfl ?_
          refine j_iload (pc' := 380) dL_agrees_378 rfl rfl ?_
          refine j_bipush (pc' := 382) (v := nI 11) dL_agrees_380 rfl rfl ?_
          refine j_cVi (pc' := 385) m_L_31 (p_point hD hV (by omega) (by omega) (a := nI c) ((fPt_w hV.z h16 hi (show 11 < 15 from by omega)).trans (e11))) Kd (by decide) rfl rfl rfl ⟨Nat.le_of_ble_eq_true rfl, Nat.le_of_ble_eq_true rfl⟩ ⟨Nat.le_of_ble_eq_true rfl, Nat.le_of_ble_eq_true rfl⟩ (Nat.le_of_ble_eq_true rfl) dL_agrees_382 rfl (fun x1 J1 hq => ?_)
          obtain ⟨hx, hI⟩ := hq
          rw [hx, hI]
          refine j_bipush (pc' := 387) (v := nI 20) dL_agrees_385 rfl rfl ?_
          refine j_icmpF_gt (pc' := 390) (tgt := 454) (nI_nlt (by omega) (by omega)) dL_agrees_387 (by decide) rfl ?_
          exact kk
      ·
        refine j_aload_n (pc' := 391) dL_agrees_390 rfl rfl ?_
        refine j_iload (pc' := 393) dL_agrees_391 rfl rfl ?_
        refine j_bipush (pc' := 395) (v := nI 12) dL_agrees_393 rfl rfl ?_
        refine j_cVi (pc' := 398) m_L_31 (p_point hD hV (by omega) (by omega) (a := nI ll) ((fPt_w hV.z h16 hi (show 12 < 15 from by omega)).trans (e12))) Kd (by decide) rfl rfl rfl ⟨Nat.le_of_ble_eq_true rfl, Nat.le_of_ble_eq_true rfl⟩ ⟨Nat.le_of_ble_eq_true rfl, Nat.le_of_ble_eq_true rfl⟩ (Nat.le_of_ble_eq_true rfl) dL_agrees_395 rfl (fun x1 J1 hq => ?_)
        obtain ⟨hx, hI⟩ := hq
        rw [hx, hI]
        refine j_iload (pc' := 400) dL_agrees_398 rfl rfl ?_
        refine j_icmpF_gt (pc' := 403) (tgt := 454) (nI_nlt (by omega) (by omega)) dL_agrees_400 (by decide) rfl ?_
        refine j_aload_n (pc' := 404) dL_agrees_403 rfl rfl ?_
        refine j_iload (pc' := 406) dL_agrees_404 rfl rfl ?_
        refine j_bipush (pc' := 408) (v := nI 14) dL_agrees_406 rfl rfl ?_
        refine j_cVi (pc' := 411) m_L_31 (p_point hD hV (by omega) (by omega) (a := v (176 + 56 * i + 14)) ((fPt_w hV.z h16 hi (show 14 < 15 from by omega)))) Kd (by decide) rfl rfl rfl ⟨Nat.le_of_ble_eq_true rfl, Nat.le_of_ble_eq_true rfl⟩ ⟨Nat.le_of_ble_eq_true rfl, Nat.le_of_ble_eq_true rfl⟩ (Nat.le_of_ble_eq_true rfl) dL_agrees_408 rfl (fun x1 J1 hq => ?_)
        obtain ⟨hx, hI⟩ := hq
        rw [hx, hI]
        refine jx_cut (B := jx_J E l cL_agrees 13 (some .boolean) RL false rmA 1 5 (fun v' n' kd' R' I' => v' = some (.int (nI 1)) ∧ LZ kd' R' I' d k T B) 1 5 n kd R I2 438 [some (.ref d), some (.int (nI k)), some (.ref a), some (.int ((cntF v 0 i) + (nI 0))), some (.int ((cntF v 6 i) + (nI 0))), some (.int ((cntF v 7 i) + (nI 0))), some (.int ((sm v i) + (v (176 + 56 * i + 14)))), some (.int (nI T)), some (.int (nI i)), some (.int ((-20009))), some (.int (nI 0)), some (.int (nI 1)), some (.int (nI 0))] []) (fun kk => ?_) ?_
        ·
          refine j_if_ne (pc' := 414) (tgt := 418) dL_agrees_411 rfl (by decide) (fun c411 => ?_) (fun c411 => ?_)
          ·
            refine j_iconst (pc' := 419) (v := nI 0) dL_agrees_418 rfl rfl ?_
            refine j_aload_n (pc' := 420) dL_agrees_419 rfl rfl ?_
            refine j_iload (pc' := 422) dL_agrees_420 rfl rfl ?_
            refine j_bipush (pc' := 424) (v := nI 12) dL_agrees_422 rfl rfl ?_
            refine j_cVi (pc' := 427) m_L_31 (p_point hD hV (by omega) (by omega) (a := v (176 + 56 * i + 12)) ((fPt_w hV.z h16 hi (show 12 < 15 from by omega)))) Kd (by decide) rfl rfl rfl ⟨Nat.le_of_ble_eq_true rfl, Nat.le_of_ble_eq_true rfl⟩ ⟨Nat.le_of_ble_eq_true rfl, Nat.le_of_ble_eq_true rfl⟩ (Nat.le_of_ble_eq_true rfl) dL_agrees_424 rfl (fun x1 J1 hq => ?_)
            obtain ⟨hx, hI⟩ := hq
            rw [hx, hI]
            refine j_ifT_ne (tgt := 434) (fun z => c411 (h14.mpr z)) dL_agrees_427 (by decide) ?_
            refine j_iconst (pc' := 435) (v := nI 0) dL_agrees_434 rfl rfl ?_
            refine j_icmpF_ne (pc' := 438) (tgt := 454) (by decide) dL_agrees_435 (by decide) rfl ?_
            exact kk
          ·
            refine j_iconst (pc' := 415) (v := nI 1) dL_agrees_414 rfl rfl ?_
            refine j_goto (tgt := 419) dL_agrees_415 (by decide) ?_
            refine j_aload_n (pc' := 420) dL_agrees_419 rfl rfl ?_
            refine j_iload (pc' := 422) dL_agrees_420 rfl rfl ?_
            refine j_bipush (pc' := 424) (v := nI 12) dL_agrees_422 rfl rfl ?_
            refine j_cVi (pc' := 427) m_L_31 (p_point hD hV (by omega) (by omega) (a := v (176 + 56 * i + 12)) ((fPt_w hV.z h16 hi (show 12 < 15 from by omega)))) Kd (by decide) rfl rfl rfl ⟨Nat.le_of_ble_eq_true rfl, Nat.le_of_ble_eq_true rfl⟩ ⟨Nat.le_of_ble_eq_true rfl, Nat.le_of_ble_eq_true rfl⟩ (Nat.le_of_ble_eq_true rfl) dL_agrees_424 rfl (fun x1 J1 hq => ?_)
            obtain ⟨hx, hI⟩ := hq
            rw [hx, hI]
            refine j_ifF_ne (pc' := 430) (tgt := 434) (h14.mp c411) dL_agrees_427 (by decide) rfl ?_
            refine j_iconst (pc' := 431) (v := nI 1) dL_agrees_430 rfl rfl ?_
            refine j_goto (tgt := 435) dL_agrees_431 (by decide) ?_
            refine j_icmpF_ne (pc' := 438) (tgt := 454) (by decide) dL_agrees_435 (by decide) rfl ?_
            exact kk
        ·
          refine j_aload_n (pc' := 439) dL_agrees_438 rfl rfl ?_
          refine j_iload (pc' := 441) dL_agrees_439 rfl rfl ?_
          refine j_bipush (pc' := 443) (v := nI 14) dL_agrees_441 rfl rfl ?_
          refine j_cVi (pc' := 446) m_L_31 (p_point hD hV (by omega) (by omega) (a := v (176 + 56 * i + 14)) ((fPt_w hV.z h16 hi (show 14 < 15 from by omega)))) Kd (by decide) rfl rfl rfl ⟨Nat.le_of_ble_eq_true rfl, Nat.le_of_ble_eq_true rfl⟩ ⟨Nat.le_of_ble_eq_true rfl, Nat.le_of_ble_eq_true rfl⟩ (Nat.le_of_ble_eq_true rfl) dL_agrees_443 rfl (fun x1 J1 hq => ?_)
          obtain ⟨hx, hI⟩ := hq
          rw [hx, hI]
          refine jx_cut (B := jx_J E l cL_agrees 13 (some .boolean) RL false rmA 1 5 (fun v' n' kd' R' I' => v' = some (.int (nI 1)) ∧ LZ kd' R' I' d k T B) 1 5 n kd R I2 456 [some (.ref d), some (.int (nI k)), some (.ref a), some (.int ((cntF v 0 i) + (nI 0))), some (.int ((cntF v 6 i) + (nI 0))), some (.int ((cntF v 7 i) + (nI 0))), some (.int ((sm v i) + (v (176 + 56 * i + 14)))), some (.int (nI T)), some (.int (nI i)), some (.int ((-20009))), some (.int (nI 0)), some (.int (nI 1)), some (.int (nI 0))] []) (fun kk => ?_) ?_
          ·
            refine j_if_ne (pc' := 449) (tgt := 456) dL_agrees_446 rfl (by decide) (fun c446 => ?_) (fun c446 => ?_)
            ·
              exact kk
            ·
              refine j_iload (pc' := 451) dL_agrees_449 rfl rfl ?_
              refine j_ifT_eq (tgt := 456) (by decide) dL_agrees_451 (by decide) ?_
              exact kk
          ·
            refine j_iincN (pc' := 459) (lv' := [_, _, _, _, _, _, _, _, _, _, _, _, _]) dL_agrees_456 rfl rfl (by decide) rfl ?_
            refine j_goto (tgt := 25) dL_agrees_459 (by decide) ?_
            have e0 : cntF v 0 (i + 1) = cntF v 0 i + nI 0 := cnt_f (by rw [cC0]; exact hst)
            have e6 : cntF v 6 (i + 1) = cntF v 6 i + nI 0 := cnt_f (by rw [cC6]; exact decide_eq_false (fun z => z hsh))
            have e7 : cntF v 7 (i + 1) = cntF v 7 i + nI 0 := cnt_f (by rw [cC7]; exact decide_eq_false (by rw [h10]; decide))
            refine j_eqLA e0 e6 e7 ?_
            exact ih (i + 1) I2 _ _ _ _ (by omega) (by omega) hD hA2
set_option maxRecDepth 100000 in
set_option maxHeartbeats 4000000 in
theorem ag_01_n1 {E : jx_E} {l : Launch} {n : Nat} {kd : jx_K} {R : jx_R} {d : Nat} {v p : Nat → Int32} {q B k T S N : Nat} {i a : Nat} {I : jx_I} {y9 y10 y11 y12 : Option Value} (hV : VI v k T S N) (hN : N ≤ B) (hB : B + 100000 < 2147483000) (hP : PI v k T) (hi : i < k) (hka : kd a = (7, 5)) (hda : d + 344 ≤ a) (ih : ∀ (j : Nat) (I : jx_I) (y9 y10 y11 y12 : Option Value), i < j → j ≤ k → DK kd R I d v p q B → (∀ w, w < 5 → I a w = cntF v (w + 1) j) → jx_J E l cL_agrees 13 (some .boolean) RL false rmA 1 5 (fun v' n' kd' R' I' => v' = some (.int (nI 1)) ∧ LZ kd' R' I' d k T B) 1 5 n kd R I 25 [some (.ref d), some (.int (nI k)), some (.ref a), some (.int (cntF v 0 j)), some (.int (cntF v 6 j)), some (.int (cntF v 7 j)), some (.int (sm v j)), some (.int (nI T)), some (.int (nI j)), y9, y10, y11, y12] []) (hD : DK kd R I d v p q B) (hA : ∀ w, w < 5 → I a w = cntF v (w + 1) i) (h9 : v (176 + 56 * i + 9) = nI 0) (h10 : v (176 + 56 * i + 10) = nI 1) (hst : sStand v i = false) (hw0 : sWhy v i = -20009) (hsh : ¬ v (176 + 56 * i + 13) ≤ 0) : jx_J E l cL_agrees 13 (some .boolean) RL false rmA 1 5 (fun v' n' kd' R' I' => v' = some (.int (nI 1)) ∧ LZ kd' R' I' d k T B) 1 5 n kd R I 25 [some (.ref d), some (.int (nI k)), some (.ref a), some (.int (cntF v 0 i)), some (.int (cntF v 6 i)), some (.int (cntF v 7 i)), some (.int (sm v i)), some (.int (nI T)), some (.int (nI i)), y9, y10, y11, y12] [] := by
  have h16 := hV.k16
  have Kd := hD.k5
  have hT := hV.tl
  obtain ⟨hp1, hp2⟩ := hP.1 i hi
  obtain ⟨⟨c, hc, e11⟩, aa, ll, haa, hll, e14, e12, hal0, hz⟩ := hp1
  have h14 : v (176 + 56 * i + 14) = 0 ↔ v (176 + 56 * i + 12) = 0 := by
    rw [e14, e12]
    have x1 := nI_eq (show aa < 2 ^ 31 from by omega) (show 0 < 2 ^ 31 from by omega)
    have x2 := nI_eq (show ll < 2 ^ 31 from by omega) (show 0 < 2 ^ 31 from by omega)
    exact x1.trans (hal0.trans x2.symm)
  have hal : v (176 + 56 * i + 14) = 0 → v (176 + 56 * i + 9) = nI 0 ∧ v (176 + 56 * i + 10) = nI 1 := fun z => hz ((nI_eq (show aa < 2 ^ 31 from by omega) (show 0 < 2 ^ 31 from by omega)).mp (e14.symm.trans z))
  have hgtT : ¬ v (176 + 56 * i + 13) = 0 → ¬ v (176 + 56 * i + 13) ≤ nI T := by
    intro z
    rcases hp2.2 with e | ⟨u, hu, hu2, e⟩
    · exact absurd e z
    · rw [e]; exact nI_ge hu (by omega)
  refine j_iload (pc' := 27) dL_agrees_25 rfl rfl ?_
  refine j_iload_n (pc' := 28) dL_agrees_27 rfl rfl ?_
  refine j_icmpF_ge (pc' := 31) (tgt := 462) (nI_ge hi (by omega)) dL_agrees_28 (by decide) rfl ?_
  refine j_aload_n (pc' := 32) dL_agrees_31 rfl rfl ?_
  refine j_iload (pc' := 34) dL_agrees_32 rfl rfl ?_
  refine j_bipush (pc' := 36) (v := nI 15) dL_agrees_34 rfl rfl ?_
  refine j_cVi (pc' := 39) m_L_31 (p_point hD hV (by omega) (by omega) (a := (-20009)) ((fPt_15 hV.z h16 hi).trans hw0)) Kd (by decide) rfl rfl rfl ⟨Nat.le_of_ble_eq_true rfl, Nat.le_of_ble_eq_true rfl⟩ ⟨Nat.le_of_ble_eq_true rfl, Nat.le_of_ble_eq_true rfl⟩ (Nat.le_of_ble_eq_true rfl) dL_agrees_36 rfl (fun x1 J1 hq => ?_)
  obtain ⟨hx, hI⟩ := hq
  rw [hx, hI]
  refine j_istore (pc' := 41) (lv' := [_, _, _, _, _, _, _, _, _, _, _, _, _]) dL_agrees_39 rfl (by decide) rfl ?_
  refine j_aload_n (pc' := 42) dL_agrees_41 rfl rfl ?_
  refine j_iload (pc' := 44) dL_agrees_42 rfl rfl ?_
  refine j_bipush (pc' := 46) (v := nI 9) dL_agrees_44 rfl rfl ?_
  refine j_cVi (pc' := 49) m_L_31 (p_point hD hV (by omega) (by omega) (a := nI 0) ((fPt_w hV.z h16 hi (show 9 < 15 from by omega)).trans (h9))) Kd (by decide) rfl rfl rfl ⟨Nat.le_of_ble_eq_true rfl, Nat.le_of_ble_eq_true rfl⟩ ⟨Nat.le_of_ble_eq_true rfl, Nat.le_of_ble_eq_true rfl⟩ (Nat.le_of_ble_eq_true rfl) dL_agrees_46 rfl (fun x1 J1 hq => ?_)
  obtain ⟨hx, hI⟩ := hq
  rw [hx, hI]
  refine j_iconst (pc' := 50) (v := nI 1) dL_agrees_49 rfl rfl ?_
  refine j_icmpT_ne (tgt := 57) (by decide) dL_agrees_50 (by decide) ?_
  refine j_iconst (pc' := 58) (v := nI 0) dL_agrees_57 rfl rfl ?_
  refine j_istore (pc' := 60) (lv' := [_, _, _, _, _, _, _, _, _, _, _, _, _]) dL_agrees_58 rfl (by decide) rfl ?_
  refine j_aload_n (pc' := 61) dL_agrees_60 rfl rfl ?_
  refine j_iload (pc' := 63) dL_agrees_61 rfl rfl ?_
  refine j_bipush (pc' := 65) (v := nI 10) dL_agrees_63 rfl rfl ?_
  refine j_cVi (pc' := 68) m_L_31 (p_point hD hV (by omega) (by omega) (a := nI 1) ((fPt_w hV.z h16 hi (show 10 < 15 from by omega)).trans (h10))) Kd (by decide) rfl rfl rfl ⟨Nat.le_of_ble_eq_true rfl, Nat.le_of_ble_eq_true rfl⟩ ⟨Nat.le_of_ble_eq_true rfl, Nat.le_of_ble_eq_true rfl⟩ (Nat.le_of_ble_eq_true rfl) dL_agrees_65 rfl (fun x1 J1 hq => ?_)
  obtain ⟨hx, hI⟩ := hq
  rw [hx, hI]
  refine j_iconst (pc' := 69) (v := nI 1) dL_agrees_68 rfl rfl ?_
  refine j_icmpF_ne (pc' := 72) (tgt := 76) (by decide) dL_agrees_69 (by decide) rfl ?_
  refine j_iconst (pc' := 73) (v := nI 1) dL_agrees_72 rfl rfl ?_
  refine j_goto (tgt := 77) dL_agrees_73 (by decide) ?_
  refine j_istore (pc' := 79) (lv' := [_, _, _, _, _, _, _, _, _, _, _, _, _]) dL_agrees_77 rfl (by decide) rfl ?_
  refine j_iload (pc' := 81) dL_agrees_79 rfl rfl ?_
  refine j_ifF_ne (pc' := 84) (tgt := 89) (by decide) dL_agrees_81 (by decide) rfl ?_
  refine j_iload (pc' := 86) dL_agrees_84 rfl rfl ?_
  refine j_ifT_ne (tgt := 93) (by decide) dL_agrees_86 (by decide) ?_
  refine j_iconst (pc' := 94) (v := nI 0) dL_agrees_93 rfl rfl ?_
  refine j_istore (pc' := 96) (lv' := [_, _, _, _, _, _, _, _, _, _, _, _, _]) dL_agrees_94 rfl (by decide) rfl ?_
  refine j_iload_n (pc' := 97) dL_agrees_96 rfl rfl ?_
  refine j_iload (pc' := 99) dL_agrees_97 rfl rfl ?_
  refine j_ifT_eq (tgt := 106) (by decide) dL_agrees_99 (by decide) ?_
  refine j_iconst (pc' := 107) (v := nI 0) dL_agrees_106 rfl rfl ?_
  refine j_iadd (pc' := 108) dL_agrees_107 rfl ?_
  refine j_istore_n (pc' := 109) (lv' := [_, _, _, _, _, _, _, _, _, _, _, _, _]) dL_agrees_108 rfl (by decide) rfl ?_
  refine j_iload (pc' := 111) dL_agrees_109 rfl rfl ?_
  refine j_aload_n (pc' := 112) dL_agrees_111 rfl rfl ?_
  refine j_iload (pc' := 114) dL_agrees_112 rfl rfl ?_
  refine j_bipush (pc' := 116) (v := nI 13) dL_agrees_114 rfl rfl ?_
  refine j_cVi (pc' := 119) m_L_31 (p_point hD hV (by omega) (by omega) (a := v (176 + 56 * i + 13)) ((fPt_w hV.z h16 hi (show 13 < 15 from by omega)))) Kd (by decide) rfl rfl rfl ⟨Nat.le_of_ble_eq_true rfl, Nat.le_of_ble_eq_true rfl⟩ ⟨Nat.le_of_ble_eq_true rfl, Nat.le_of_ble_eq_true rfl⟩ (Nat.le_of_ble_eq_true rfl) dL_agrees_116 rfl (fun x1 J1 hq => ?_)
  obtain ⟨hx, hI⟩ := hq
  rw [hx, hI]
  refine j_ifF_le (pc' := 122) (tgt := 126) (hsh) dL_agrees_119 (by decide) rfl ?_
  refine j_iconst (pc' := 123) (v := nI 1) dL_agrees_122 rfl rfl ?_
  refine j_goto (tgt := 127) dL_agrees_123 (by decide) ?_
  refine j_iadd (pc' := 128) dL_agrees_127 rfl ?_
  refine j_istore (pc' := 130) (lv' := [_, _, _, _, _, _, _, _, _, _, _, _, _]) dL_agrees_128 rfl (by decide) rfl ?_
  refine j_iload (pc' := 132) dL_agrees_130 rfl rfl ?_
  refine j_iload (pc' := 134) dL_agrees_132 rfl rfl ?_
  refine j_ifF_eq (pc' := 137) (tgt := 141) (by decide) dL_agrees_134 (by decide) rfl ?_
  refine j_iconst (pc' := 138) (v := nI 0) dL_agrees_137 rfl rfl ?_
  refine j_goto (tgt := 142) dL_agrees_138 (by decide) ?_
  refine j_iadd (pc' := 143) dL_agrees_142 rfl ?_
  refine j_istore (pc' := 145) (lv' := [_, _, _, _, _, _, _, _, _, _, _, _, _]) dL_agrees_143 rfl (by decide) rfl ?_
  refine j_iload (pc' := 147) dL_agrees_145 rfl rfl ?_
  refine j_aload_n (pc' := 148) dL_agrees_147 rfl rfl ?_
  refine j_iload (pc' := 150) dL_agrees_148 rfl rfl ?_
  refine j_bipush (pc' := 152) (v := nI 14) dL_agrees_150 rfl rfl ?_
  refine j_cVi (pc' := 155) m_L_31 (p_point hD hV (by omega) (by omega) (a := v (176 + 56 * i + 14)) ((fPt_w hV.z h16 hi (show 14 < 15 from by omega)))) Kd (by decide) rfl rfl rfl ⟨Nat.le_of_ble_eq_true rfl, Nat.le_of_ble_eq_true rfl⟩ ⟨Nat.le_of_ble_eq_true rfl, Nat.le_of_ble_eq_true rfl⟩ (Nat.le_of_ble_eq_true rfl) dL_agrees_152 rfl (fun x1 J1 hq => ?_)
  obtain ⟨hx, hI⟩ := hq
  rw [hx, hI]
  refine j_iadd (pc' := 156) dL_agrees_155 rfl ?_
  refine j_istore (pc' := 158) (lv' := [_, _, _, _, _, _, _, _, _, _, _, _, _]) dL_agrees_156 rfl (by decide) rfl ?_
  refine j_iload (pc' := 160) dL_agrees_158 rfl rfl ?_
  refine j_ifT_eq (tgt := 177) (by decide) dL_agrees_160 (by decide) ?_
  refine j_iload (pc' := 179) dL_agrees_177 rfl rfl ?_
  refine j_sipush (pc' := 182) (v := (-20009)) dL_agrees_179 rfl rfl ?_
  refine j_icmpT_eq (tgt := 187) (by decide) dL_agrees_182 (by decide) ?_
  refine j_aload_n (pc' := 188) dL_agrees_187 rfl rfl ?_
  refine j_iload (pc' := 190) dL_agrees_188 rfl rfl ?_
  refine j_ifF_ge (pc' := 193) (tgt := 197) (by decide) dL_agrees_190 (by decide) rfl ?_
  refine j_iconst (pc' := 194) (v := nI 0) dL_agrees_193 rfl rfl ?_
  refine j_goto (tgt := 199) dL_agrees_194 (by decide) ?_
  refine j_dup2 (pc' := 200) dL_agrees_199 rfl rfl rfl ?_
  refine j_ialdv (pc' := 201) hka rfl (by decide) (by decide) (hA _ (by decide)) dL_agrees_200 rfl ?_
  refine j_iload (pc' := 203) dL_agrees_201 rfl rfl ?_
  refine j_ifT_eq (tgt := 210) (by decide) dL_agrees_203 (by decide) ?_
  refine j_iconst (pc' := 211) (v := nI 0) dL_agrees_210 rfl rfl ?_
  refine j_iadd (pc' := 212) dL_agrees_211 rfl ?_
  refine j_iast (pc' := 213) hka rfl (by decide) (by decide) dL_agrees_212 rfl ?_
  have hD2 := hD.upA (j := 0) (x := cntF v 1 i + nI 0) hda
  have hA2 := why_up0 (a := a) hw0 hA
  change jx_J E l cL_agrees 13 (some .boolean) RL false rmA 1 5 (fun v' n' kd' R' I' => v' = some (.int (nI 1)) ∧ LZ kd' R' I' d k T B) 1 5 n kd R (jx_up I a 0 (cntF v 1 i + nI 0)) 213 _ _
  generalize jx_up I a 0 (cntF v 1 i + nI 0) = I2 at hD2 hA2 ⊢
  have hD := hD2
  refine j_aload_n (pc' := 214) dL_agrees_213 rfl rfl ?_
  refine j_iload (pc' := 216) dL_agrees_214 rfl rfl ?_
  refine j_iconst (pc' := 217) (v := nI 5) dL_agrees_216 rfl rfl ?_
  refine j_cVi (pc' := 220) m_L_31 (p_point hD hV (by omega) (by omega) (a := v (176 + 56 * i + 5)) ((fPt_w hV.z h16 hi (show 5 < 15 from by omega)))) Kd (by decide) rfl rfl rfl ⟨Nat.le_of_ble_eq_true rfl, Nat.le_of_ble_eq_true rfl⟩ ⟨Nat.le_of_ble_eq_true rfl, Nat.le_of_ble_eq_true rfl⟩ (Nat.le_of_ble_eq_true rfl) dL_agrees_217 rfl (fun x1 J1 hq => ?_)
  obtain ⟨hx, hI⟩ := hq
  rw [hx, hI]
  refine j_iconst (pc' := 221) (v := nI 1) dL_agrees_220 rfl rfl ?_
  refine jx_cut (B := jx_J E l cL_agrees 13 (some .boolean) RL false rmA 1 5 (fun v' n' kd' R' I' => v' = some (.int (nI 1)) ∧ LZ kd' R' I' d k T B) 1 5 n kd R I2 240 [some (.ref d), some (.int (nI k)), some (.ref a), some (.int ((cntF v 0 i) + (nI 0))), some (.int ((cntF v 6 i) + (nI 1))), some (.int ((cntF v 7 i) + (nI 0))), some (.int ((sm v i) + (v (176 + 56 * i + 14)))), some (.int (nI T)), some (.int (nI i)), some (.int ((-20009))), some (.int (nI 0)), some (.int (nI 1)), some (.int (nI 0))] []) (fun kk => ?_) ?_
  ·
    refine j_icmp_ne (pc' := 224) (tgt := 240) dL_agrees_221 rfl (by decide) (fun c221 => ?_) (fun c221 => ?_)
    ·
      exact kk
    ·
      refine j_iload (pc' := 226) dL_agrees_224 rfl rfl ?_
      refine j_ifF_gt (pc' := 229) (tgt := 348) (by decide) dL_agrees_226 (by decide) rfl ?_
      refine j_aload_n (pc' := 230) dL_agrees_229 rfl rfl ?_
      refine j_iload (pc' := 232) dL_agrees_230 rfl rfl ?_
      refine j_bipush (pc' := 234) (v := nI 13) dL_agrees_232 rfl rfl ?_
      refine j_cVi (pc' := 237) m_L_31 (p_point hD hV (by omega) (by omega) (a := v (176 + 56 * i + 13)) ((fPt_w hV.z h16 hi (show 13 < 15 from by omega)))) Kd (by decide) rfl rfl rfl ⟨Nat.le_of_ble_eq_true rfl, Nat.le_of_ble_eq_true rfl⟩ ⟨Nat.le_of_ble_eq_true rfl, Nat.le_of_ble_eq_true rfl⟩ (Nat.le_of_ble_eq_true rfl) dL_agrees_234 rfl (fun x1 J1 hq => ?_)
      obtain ⟨hx, hI⟩ := hq
      rw [hx, hI]
      refine j_ifF_ne (pc' := 240) (tgt := 348) (hp2.1 c221) dL_agrees_237 (by decide) rfl ?_
      exact kk
  ·
    refine j_aload_n (pc' := 241) dL_agrees_240 rfl rfl ?_
    refine j_iload (pc' := 243) dL_agrees_241 rfl rfl ?_
    refine j_bipush (pc' := 245) (v := nI 13) dL_agrees_243 rfl rfl ?_
    refine j_cVi (pc' := 248) m_L_31 (p_point hD hV (by omega) (by omega) (a := v (176 + 56 * i + 13)) ((fPt_w hV.z h16 hi (show 13 < 15 from by omega)))) Kd (by decide) rfl rfl rfl ⟨Nat.le_of_ble_eq_true rfl, Nat.le_of_ble_eq_true rfl⟩ ⟨Nat.le_of_ble_eq_true rfl, Nat.le_of_ble_eq_true rfl⟩ (Nat.le_of_ble_eq_true rfl) dL_agrees_245 rfl (fun x1 J1 hq => ?_)
    obtain ⟨hx, hI⟩ := hq
    rw [hx, hI]
    refine jx_cut (B := jx_J E l cL_agrees 13 (some .boolean) RL false rmA 1 5 (fun v' n' kd' R' I' => v' = some (.int (nI 1)) ∧ LZ kd' R' I' d k T B) 1 5 n kd R I2 264 [some (.ref d), some (.int (nI k)), some (.ref a), some (.int ((cntF v 0 i) + (nI 0))), some (.int ((cntF v 6 i) + (nI 1))), some (.int ((cntF v 7 i) + (nI 0))), some (.int ((sm v i) + (v (176 + 56 * i + 14)))), some (.int (nI T)), some (.int (nI i)), some (.int ((-20009))), some (.int (nI 0)), some (.int (nI 1)), some (.int (nI 0))] []) (fun kk => ?_) ?_
    ·
      refine j_if_eq (pc' := 251) (tgt := 264) dL_agrees_248 rfl (by decide) (fun c248 => ?_) (fun c248 => ?_)
      ·
        exact kk
      ·
        refine j_aload_n (pc' := 252) dL_agrees_251 rfl rfl ?_
        refine j_iload (pc' := 254) dL_agrees_252 rfl rfl ?_
        refine j_bipush (pc' := 256) (v := nI 13) dL_agrees_254 rfl rfl ?_
        refine j_cVi (pc' := 259) m_L_31 (p_point hD hV (by omega) (by omega) (a := v (176 + 56 * i + 13)) ((fPt_w hV.z h16 hi (show 13 < 15 from by omega)))) Kd (by decide) rfl rfl rfl ⟨Nat.le_of_ble_eq_true rfl, Nat.le_of_ble_eq_true rfl⟩ ⟨Nat.le_of_ble_eq_true rfl, Nat.le_of_ble_eq_true rfl⟩ (Nat.le_of_ble_eq_true rfl) dL_agrees_256 rfl (fun x1 J1 hq => ?_)
        obtain ⟨hx, hI⟩ := hq
        rw [hx, hI]
        refine j_iload (pc' := 261) dL_agrees_259 rfl rfl ?_
        refine j_icmpF_le (pc' := 264) (tgt := 348) (hgtT c248) dL_agrees_261 (by decide) rfl ?_
        exact kk
    ·
      refine j_iload (pc' := 266) dL_agrees_264 rfl rfl ?_
      refine j_iconst (pc' := 267) (v := nI 1) dL_agrees_266 rfl rfl ?_
      refine j_icmpT_ne (tgt := 281) (by decide) dL_agrees_267 (by decide) ?_
      refine j_iload (pc' := 283) dL_agrees_281 rfl rfl ?_
      refine j_iconst (pc' := 284) (v := nI 2) dL_agrees_283 rfl rfl ?_
      refine j_icmpT_ne (tgt := 306) (by decide) dL_agrees_284 (by decide) ?_
      refine j_iload (pc' := 308) dL_agrees_306 rfl rfl ?_
      refine j_iconst (pc' := 309) (v := nI 3) dL_agrees_308 rfl rfl ?_
      refine j_icmpT_ne (tgt := 323) (by decide) dL_agrees_309 (by decide) ?_
      refine j_iload (pc' := 325) dL_agrees_323 rfl rfl ?_
      refine j_iconst (pc' := 326) (v := nI 4) dL_agrees_325 rfl rfl ?_
      refine j_icmpT_ne (tgt := 350) (by decide) dL_agrees_326 (by decide) ?_
      refine j_aload_n (pc' := 351) dL_agrees_350 rfl rfl ?_
      refine j_iload (pc' := 353) dL_agrees_351 rfl rfl ?_
      refine j_bipush (pc' := 355) (v := nI 11) dL_agrees_353 rfl rfl ?_
      refine j_cVi (pc' := 358) m_L_31 (p_point hD hV (by omega) (by omega) (a := v (176 + 56 * i + 11)) ((fPt_w hV.z h16 hi (show 11 < 15 from by omega)))) Kd (by decide) rfl rfl rfl ⟨Nat.le_of_ble_eq_true rfl, Nat.le_of_ble_eq_true rfl⟩ ⟨Nat.le_of_ble_eq_true rfl, Nat.le_of_ble_eq_true rfl⟩ (Nat.le_of_ble_eq_true rfl) dL_agrees_355 rfl (fun x1 J1 hq => ?_)
      obtain ⟨hx, hI⟩ := hq
      rw [hx, hI]
      refine j_aload_n (pc' := 359) dL_agrees_358 rfl rfl ?_
      refine j_iload (pc' := 361) dL_agrees_359 rfl rfl ?_
      refine j_iload (pc' := 363) dL_agrees_361 rfl rfl ?_
      refine j_ifT_eq (tgt := 370) (by decide) dL_agrees_363 (by decide) ?_
      refine j_iconst (pc' := 371) (v := nI 3) dL_agrees_370 rfl rfl ?_
      refine j_cVi (pc' := 374) m_L_31 (p_point hD hV (by omega) (by omega) (a := v (176 + 56 * i + 3)) ((fPt_w hV.z h16 hi (show 3 < 15 from by omega)))) Kd (by decide) rfl rfl rfl ⟨Nat.le_of_ble_eq_true rfl, Nat.le_of_ble_eq_true rfl⟩ ⟨Nat.le_of_ble_eq_true rfl, Nat.le_of_ble_eq_true rfl⟩ (Nat.le_of_ble_eq_true rfl) dL_agrees_371 rfl (fun x1 J1 hq => ?_)
      obtain ⟨hx, hI⟩ := hq
      rw [hx, hI]
      refine jx_cut (B := jx_J E l cL_agrees 13 (some .boolean) RL false rmA 1 5 (fun v' n' kd' R' I' => v' = some (.int (nI 1)) ∧ LZ kd' R' I' d k T B) 1 5 n kd R I2 390 [some (.ref d), some (.int (nI k)), some (.ref a), some (.int ((cntF v 0 i) + (nI 0))), some (.int ((cntF v 6 i) + (nI 1))), some (.int ((cntF v 7 i) + (nI 0))), some (.int ((sm v i) + (v (176 + 56 * i + 14)))), some (.int (nI T)), some (.int (nI i)), some (.int ((-20009))), some (.int (nI 0)), some (.int (nI 1)), some (.int (nI 0))] []) (fun kk => ?_) ?_
      ·
        refine j_icmp_le (pc' := 377) (tgt := 390) dL_agrees_374 rfl (by decide) (fun c374 => ?_) (fun c374 => ?_)
        ·
          exact kk
        ·
          refine j_aload_n (pc' := 378) dL_agrees_377 rfl rfl ?_
          refine j_iload (pc' := 380) dL_agrees_378 rfl rfl ?_
          refine j_bipush (pc' := 382) (v := nI 11) dL_agrees_380 rfl rfl ?_
          refine j_cVi (pc' := 385) m_L_31 (p_point hD hV (by omega) (by omega) (a := nI c) ((fPt_w hV.z h16 hi (show 11 < 15 from by omega)).trans (e11))) Kd (by decide) rfl rfl rfl ⟨Nat.le_of_ble_eq_true rfl, Nat.le_of_ble_eq_true rfl⟩ ⟨Nat.le_of_ble_eq_true rfl, Nat.le_of_ble_eq_true rfl⟩ (Nat.le_of_ble_eq_true rfl) dL_agrees_382 rfl (fun x1 J1 hq => ?_)
          obtain ⟨hx, hI⟩ := hq
          rw [hx, hI]
          refine j_bipush (pc' := 387) (v := nI 20) dL_agrees_385 rfl rfl ?_
          refine j_icmpF_gt (pc' := 390) (tgt := 454) (nI_nlt (by omega) (by omega)) dL_agrees_387 (by decide) rfl ?_
          exact kk
      ·
        refine j_aload_n (pc' := 391) dL_agrees_390 rfl rfl ?_
        refine j_iload (pc' := 393) dL_agrees_391 rfl rfl ?_
        refine j_bipush (pc' := 395) (v := nI 12) dL_agrees_393 rfl rfl ?_
        refine j_cVi (pc' := 398) m_L_31 (p_point hD hV (by omega) (by omega) (a := nI ll) ((fPt_w hV.z h16 hi (show 12 < 15 from by omega)).trans (e12))) Kd (by decide) rfl rfl rfl ⟨Nat.le_of_ble_eq_true rfl, Nat.le_of_ble_eq_true rfl⟩ ⟨Nat.le_of_ble_eq_true rfl, Nat.le_of_ble_eq_true rfl⟩ (Nat.le_of_ble_eq_true rfl) dL_agrees_395 rfl (fun x1 J1 hq => ?_)
        obtain ⟨hx, hI⟩ := hq
        rw [hx, hI]
        refine j_iload (pc' := 400) dL_agrees_398 rfl rfl ?_
        refine j_icmpF_gt (pc' := 403) (tgt := 454) (nI_nlt (by omega) (by omega)) dL_agrees_400 (by decide) rfl ?_
        refine j_aload_n (pc' := 404) dL_agrees_403 rfl rfl ?_
        refine j_iload (pc' := 406) dL_agrees_404 rfl rfl ?_
        refine j_bipush (pc' := 408) (v := nI 14) dL_agrees_406 rfl rfl ?_
        refine j_cVi (pc' := 411) m_L_31 (p_point hD hV (by omega) (by omega) (a := v (176 + 56 * i + 14)) ((fPt_w hV.z h16 hi (show 14 < 15 from by omega)))) Kd (by decide) rfl rfl rfl ⟨Nat.le_of_ble_eq_true rfl, Nat.le_of_ble_eq_true rfl⟩ ⟨Nat.le_of_ble_eq_true rfl, Nat.le_of_ble_eq_true rfl⟩ (Nat.le_of_ble_eq_true rfl) dL_agrees_408 rfl (fun x1 J1 hq => ?_)
        obtain ⟨hx, hI⟩ := hq
        rw [hx, hI]
        refine jx_cut (B := jx_J E l cL_agrees 13 (some .boolean) RL false rmA 1 5 (fun v' n' kd' R' I' => v' = some (.int (nI 1)) ∧ LZ kd' R' I' d k T B) 1 5 n kd R I2 438 [some (.ref d), some (.int (nI k)), some (.ref a), some (.int ((cntF v 0 i) + (nI 0))), some (.int ((cntF v 6 i) + (nI 1))), some (.int ((cntF v 7 i) + (nI 0))), some (.int ((sm v i) + (v (176 + 56 * i + 14)))), some (.int (nI T)), some (.int (nI i)), some (.int ((-20009))), some (.int (nI 0)), some (.int (nI 1)), some (.int (nI 0))] []) (fun kk => ?_) ?_
        ·
          refine j_if_ne (pc' := 414) (tgt := 418) dL_agrees_411 rfl (by decide) (fun c411 => ?_) (fun c411 => ?_)
          ·
            refine j_iconst (pc' := 419) (v := nI 0) dL_agrees_418 rfl rfl ?_
            refine j_aload_n (pc' := 420) dL_agrees_419 rfl rfl ?_
            refine j_iload (pc' := 422) dL_agrees_420 rfl rfl ?_
            refine j_bipush (pc' := 424) (v := nI 12) dL_agrees_422 rfl rfl ?_
            refine j_cVi (pc' := 427) m_L_31 (p_point hD hV (by omega) (by omega) (a := v (176 + 56 * i + 12)) ((fPt_w hV.z h16 hi (show 12 < 15 from by omega)))) Kd (by decide) rfl rfl rfl ⟨Nat.le_of_ble_eq_true rfl, Nat.le_of_ble_eq_true rfl⟩ ⟨Nat.le_of_ble_eq_true rfl, Nat.le_of_ble_eq_true rfl⟩ (Nat.le_of_ble_eq_true rfl) dL_agrees_424 rfl (fun x1 J1 hq => ?_)
            obtain ⟨hx, hI⟩ := hq
            rw [hx, hI]
            refine j_ifT_ne (tgt := 434) (fun z => c411 (h14.mpr z)) dL_agrees_427 (by decide) ?_
            refine j_iconst (pc' := 435) (v := nI 0) dL_agrees_434 rfl rfl ?_
            refine j_icmpF_ne (pc' := 438) (tgt := 454) (by decide) dL_agrees_435 (by decide) rfl ?_
            exact kk
          ·
            refine j_iconst (pc' := 415) (v := nI 1) dL_agrees_414 rfl rfl ?_
            refine j_goto (tgt := 419) dL_agrees_415 (by decide) ?_
            refine j_aload_n (pc' := 420) dL_agrees_419 rfl rfl ?_
            refine j_iload (pc' := 422) dL_agrees_420 rfl rfl ?_
            refine j_bipush (pc' := 424) (v := nI 12) dL_agrees_422 rfl rfl ?_
            refine j_cVi (pc' := 427) m_L_31 (p_point hD hV (by omega) (by omega) (a := v (176 + 56 * i + 12)) ((fPt_w hV.z h16 hi (show 12 < 15 from by omega)))) Kd (by decide) rfl rfl rfl ⟨Nat.le_of_ble_eq_true rfl, Nat.le_of_ble_eq_true rfl⟩ ⟨Nat.le_of_ble_eq_true rfl, Nat.le_of_ble_eq_true rfl⟩ (Nat.le_of_ble_eq_true rfl) dL_agrees_424 rfl (fun x1 J1 hq => ?_)
            obtain ⟨hx, hI⟩ := hq
            rw [hx, hI]
            refine j_ifF_ne (pc' := 430) (tgt := 434) (h14.mp c411) dL_agrees_427 (by decide) rfl ?_
            refine j_iconst (pc' := 431) (v := nI 1) dL_agrees_430 rfl rfl ?_
            refine j_goto (tgt := 435) dL_agrees_431 (by decide) ?_
            refine j_icmpF_ne (pc' := 438) (tgt := 454) (by decide) dL_agrees_435 (by decide) rfl ?_
            exact kk
        ·
          refine j_aload_n (pc' := 439) dL_agrees_438 rfl rfl ?_
          refine j_iload (pc' := 441) dL_agrees_439 rfl rfl ?_
          refine j_bipush (pc' := 443) (v := nI 14) dL_agrees_441 rfl rfl ?_
          refine j_cVi (pc' := 446) m_L_31 (p_point hD hV (by omega) (by omega) (a := v (176 + 56 * i + 14)) ((fPt_w hV.z h16 hi (show 14 < 15 from by omega)))) Kd (by decide) rfl rfl rfl ⟨Nat.le_of_ble_eq_true rfl, Nat.le_of_ble_eq_true rfl⟩ ⟨Nat.le_of_ble_eq_true rfl, Nat.le_of_ble_eq_true rfl⟩ (Nat.le_of_ble_eq_true rfl) dL_agrees_443 rfl (fun x1 J1 hq => ?_)
          obtain ⟨hx, hI⟩ := hq
          rw [hx, hI]
          refine jx_cut (B := jx_J E l cL_agrees 13 (some .boolean) RL false rmA 1 5 (fun v' n' kd' R' I' => v' = some (.int (nI 1)) ∧ LZ kd' R' I' d k T B) 1 5 n kd R I2 456 [some (.ref d), some (.int (nI k)), some (.ref a), some (.int ((cntF v 0 i) + (nI 0))), some (.int ((cntF v 6 i) + (nI 1))), some (.int ((cntF v 7 i) + (nI 0))), some (.int ((sm v i) + (v (176 + 56 * i + 14)))), some (.int (nI T)), some (.int (nI i)), some (.int ((-20009))), some (.int (nI 0)), some (.int (nI 1)), some (.int (nI 0))] []) (fun kk => ?_) ?_
          ·
            refine j_if_ne (pc' := 449) (tgt := 456) dL_agrees_446 rfl (by decide) (fun c446 => ?_) (fun c446 => ?_)
            ·
              exact kk
            ·
              refine j_iload (pc' := 451) dL_agrees_449 rfl rfl ?_
              refine j_ifT_eq (tgt := 456) (by decide) dL_agrees_451 (by decide) ?_
              exact kk
          ·
            refine j_iincN (pc' := 459) (lv' := [_, _, _, _, _, _, _, _, _, _, _, _, _]) dL_agrees_456 rfl rfl (by decide) rfl ?_
            refine j_goto (tgt := 25) dL_agrees_459 (by decide) ?_
            have e0 : cntF v 0 (i + 1) = cntF v 0 i + nI 0 := cnt_f (by rw [cC0]; exact hst)
            have e6 : cntF v 6 (i + 1) = cntF v 6 i + nI 1 := cnt_t (by rw [cC6]; exact decide_eq_true hsh)
            have e7 : cntF v 7 (i + 1) = cntF v 7 i + nI 0 := cnt_f (by rw [cC7]; exact decide_eq_false (by rw [h10]; decide))
            refine j_eqLA e0 e6 e7 ?_
            exact ih (i + 1) I2 _ _ _ _ (by omega) (by omega) hD hA2
