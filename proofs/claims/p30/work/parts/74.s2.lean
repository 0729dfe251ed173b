theorem okS_0 {x : Int32} : okS (nI 0) x = decide (nI 0 ≤ x ∧ x ≤ nI 1) := by unfold okS; rw [if_pos rfl]
set_option maxRecDepth 100000 in
set_option maxHeartbeats 4000000 in
theorem lp_setup {E : jx_E} {l : Launch} {n cells slots : Nat} {kd : jx_K} {d nn B : Nat} (hc1 : cells ≤ room_1.cells) (hc2 : slots ≤ room_1.slots) (hL5 : scL E ≤ 2048) (hnn : nn ≤ 16) (hB : B + 10000000 < 2147483000) (kk : ∀ (R : jx_R) (I : jx_I) (v p : Nat → Int32) (q B1 : Nat) (y4 y5 y6 y7 y8 y9 y10 : Option Value), DK kd R I d v p q B1 → SI v nn → B1 ≤ B + 420000 * nn → jx_J E l cL_law 11 ret RL false room_1 370 6964 jx_QL cells slots n kd R I 289 [some (.ref (scA E)), some (.ref d), some (.int (nI nn)), some (.int (nI nn)), y4, y5, y6, y7, y8, y9, y10] []) : ∀ (z i : Nat) (R : jx_R) (I : jx_I) (v p : Nat → Int32) (q B1 : Nat) (y4 y5 y6 y7 y8 y9 y10 : Option Value), z + i = nn → i ≤ nn → DK kd R I d v p q B1 → SI v i → B1 ≤ B + 420000 * i → jx_J E l cL_law 11 ret RL false room_1 370 6964 jx_QL cells slots n kd R I 94 [some (.ref (scA E)), some (.ref d), some (.int (nI nn)), some (.int (nI i)), y4, y5, y6, y7, y8, y9, y10] [] := by
  intro z
  induction z with
  | zero =>
    intro i R I v p q B1 y4 y5 y6 y7 y8 y9 y10 hz hi0 hD hS hB1
    have e : i = nn := by omega
    rw [e] at hS hB1 ⊢
    refine j_iload_n (pc' := 95) dL_law_94 rfl rfl ?_
    refine j_iload_n (pc' := 96) dL_law_95 rfl rfl ?_
    refine j_icmpT_ge (tgt := 289) (nI_le (Nat.le_refl _) (by omega)) dL_law_96 (by decide) ?_
    exact kk R I v p q B1 y4 y5 y6 y7 y8 y9 y10 hD hS hB1
  | succ z ih =>
    intro i R I v p q B1 y4 y5 y6 y7 y8 y9 y10 hz hi0 hD hS hB1
    have hi : i < nn := by omega
    have hk1 : i + 1 ≤ 16 := by omega
    have Kd := hD.k5
    obtain ⟨S, N, hV, hN, _⟩ := hD.to hS.1.1 (by omega) hS.1.2.1 (by omega)
    refine j_iload_n (pc' := 95) dL_law_94 rfl rfl ?_
    refine j_iload_n (pc' := 96) dL_law_95 rfl rfl ?_
    refine j_icmpF_ge (pc' := 99) (tgt := 289) (nI_ge hi (by omega)) dL_law_96 (by decide) rfl ?_
    refine j_aload_n (pc' := 100) dL_law_99 rfl rfl ?_
    refine j_iconst (pc' := 101) (v := nI 1) dL_law_100 rfl rfl ?_
    refine j_iload_n (pc' := 102) dL_law_101 rfl rfl ?_
    refine j_iaddN' (pc' := 103) (by with_reducible rfl) (by with_reducible rfl) dL_law_102 rfl ?_
    refine j_cSi (pc' := 106) m_L_98 (c_L_cell (by omega) hL5) rfl rfl ⟨Nat.le_of_ble_eq_true rfl, Nat.le_of_ble_eq_true rfl⟩ ⟨hc1, hc2⟩ (Nat.le_of_ble_eq_true rfl) dL_law_103 rfl (fun xq J1 hq => ?_)
    rw [hq]
    refine j_istore (pc' := 108) (lv' := [_, _, _, _, _, _, _, _, _, _, _]) dL_law_106 rfl (by decide) rfl ?_
    refine j_aload_n (pc' := 109) dL_law_108 rfl rfl ?_
    refine j_iload (pc' := 111) dL_law_109 rfl rfl ?_
    refine j_sipush (pc' := 114) (v := nI 201) dL_law_111 rfl rfl ?_
    refine j_cSi (pc' := 117) m_L_102 (c_L_up (by omega) (by omega)) rfl rfl ⟨Nat.le_of_ble_eq_true rfl, Nat.le_of_ble_eq_true rfl⟩ ⟨hc1, hc2⟩ (Nat.le_of_ble_eq_true rfl) dL_law_114 rfl (fun x1 J1 hq => ?_)
    obtain ⟨⟨ja, hja, hx⟩, hJ⟩ := hq
    rw [hx, hJ]
    refine j_bipush (pc' := 119) (v := nI 100) dL_law_117 rfl rfl ?_
    refine j_isub (pc' := 120) dL_law_119 rfl ?_
    refine j_iconst (pc' := 121) (v := nI 1) dL_law_120 rfl rfl ?_
    refine j_iload (pc' := 123) dL_law_121 rfl rfl ?_
    refine j_bipush (pc' := 125) (v := nI 8) dL_law_123 rfl rfl ?_
    refine j_ishr (pc' := 126) dL_law_125 rfl ?_
    refine j_iconst (pc' := 127) (v := nI 4) dL_law_126 rfl rfl ?_
    refine j_cSi (pc' := 130) m_L_102 (c_L_up (by omega) (by omega)) rfl rfl ⟨Nat.le_of_ble_eq_true rfl, Nat.le_of_ble_eq_true rfl⟩ ⟨hc1, hc2⟩ (Nat.le_of_ble_eq_true rfl) dL_law_127 rfl (fun x1 J1 hq => ?_)
    obtain ⟨⟨jb, hjb, hx⟩, hJ⟩ := hq
    rw [hx, hJ]
    refine j_iaddN' (pc' := 131) (by with_reducible rfl) (by with_reducible rfl) dL_law_130 rfl ?_
    refine j_cViR (pc' := 134) m_L_15 (p_adds hD hV (by omega) (by omega) (a := nI i) (w := fAdd v i (nI ja - nI 100) (nI (1 + jb))) ((if_pos ⟨okV_sub (by omega) (by omega), in_ab (by omega) (by omega) (by omega)⟩).trans (if_neg (by omega))) (ie_n (by omega)) (if_pos ⟨⟨okV_sub (by omega) (by omega), in_ab (by omega) (by omega) (by omega)⟩, by omega⟩)) Kd (by decide) rfl rfl rfl ⟨Nat.le_of_ble_eq_true rfl, Nat.le_of_ble_eq_true rfl⟩ ⟨hc1, hc2⟩ (Nat.le_of_ble_eq_true rfl) dL_law_131 rfl (fun x1 R1 I1 hq => ?_)
    obtain ⟨hx, hD2⟩ := hq
    rw [hx]
    have hS2 := hS.add (i := i) (x := nI ja - nI 100) (y := nI (1 + jb))
    have z1 : ∀ w, w = 0 ∨ w = 2 ∨ w = 3 ∨ w = 4 ∨ w = 6 → fAdd v i (nI ja - nI 100) (nI (1 + jb)) (176 + 56 * i + w) = nI 0 := fun w hw => SI.z (by omega) (by omega)
    have r1 : fAdd v i (nI ja - nI 100) (nI (1 + jb)) (176 + 56 * i + 8) = -1 := SI.r
    generalize fAdd v i (nI ja - nI 100) (nI (1 + jb)) = v2 at hD2 hS2 z1 r1
    have hD := hD2
    refine j_iload_n (pc' := 135) dL_law_134 rfl rfl ?_
    refine j_icmpF_ne (pc' := 138) (tgt := 243) (rfl) dL_law_135 (by decide) rfl ?_
    refine j_aload_n (pc' := 139) dL_law_138 rfl rfl ?_
    refine j_iload_n (pc' := 140) dL_law_139 rfl rfl ?_
    refine j_iconst (pc' := 141) (v := nI 0) dL_law_140 rfl rfl ?_
    refine j_iload (pc' := 143) dL_law_141 rfl rfl ?_
    refine j_bipush (pc' := 145) (v := nI 11) dL_law_143 rfl rfl ?_
    refine j_ishr (pc' := 146) dL_law_145 rfl ?_
    refine j_iconst (pc' := 147) (v := nI 1) dL_law_146 rfl rfl ?_
    refine j_iand (pc' := 148) dL_law_147 rfl ?_
    refine j_cViR (pc' := 151) m_L_21 (p_setZ (s := 0) hD hS2 hk1 (by omega) (Nat.lt_succ_self i) (by omega) (by obtain ⟨b, hb, e⟩ := and_1 (xq >>> (nI 11 &&& 31)); rw [e, okS_0]; exact in_ab (by omega) hb (by omega)) (z1 0 (by omega))) Kd (by decide) rfl rfl rfl ⟨Nat.le_of_ble_eq_true rfl, Nat.le_of_ble_eq_true rfl⟩ ⟨hc1, hc2⟩ (Nat.le_of_ble_eq_true rfl) dL_law_148 rfl (fun x1 R1 I1 hq => ?_)
    obtain ⟨hx, hD2⟩ := hq
    rw [hx]
    have hS3 : SI (upd v2 (176 + 56 * i + 0) ((xq >>> (nI 11 &&& 31)) &&& nI 1)) (i + 1) := hS2.set (by omega) (by omega)
    have z2 : ∀ w, w = 2 ∨ w = 3 ∨ w = 4 ∨ w = 6 → upd v2 (176 + 56 * i + 0) ((xq >>> (nI 11 &&& 31)) &&& nI 1) (176 + 56 * i + w) = nI 0 := fun w hw => (pk_un (by omega)).trans (z1 w (by omega))
    have r2 : upd v2 (176 + 56 * i + 0) ((xq >>> (nI 11 &&& 31)) &&& nI 1) (176 + 56 * i + 8) = -1 := (pk_un (by omega)).trans r1
    generalize upd v2 (176 + 56 * i + 0) ((xq >>> (nI 11 &&& 31)) &&& nI 1) = v2 at hD2 hS3 z2 r2
    have hD := hD2
    have hS2 := hS3
    have z1 := z2
    have r1 := r2
    refine j_ifF_ne (pc' := 154) (tgt := 243) (by decide) dL_law_151 (by decide) rfl ?_
    refine j_aload_n (pc' := 155) dL_law_154 rfl rfl ?_
    refine j_iload_n (pc' := 156) dL_law_155 rfl rfl ?_
    refine j_iconst (pc' := 157) (v := nI 2) dL_law_156 rfl rfl ?_
    refine j_iload (pc' := 159) dL_law_157 rfl rfl ?_
    refine j_bipush (pc' := 161) (v := nI 12) dL_law_159 rfl rfl ?_
    refine j_ishr (pc' := 162) dL_law_161 rfl ?_
    refine j_bipush (pc' := 164) (v := nI 30) dL_law_162 rfl rfl ?_
    refine j_cSi (pc' := 167) m_L_102 (c_L_up (by omega) (by omega)) rfl rfl ⟨Nat.le_of_ble_eq_true rfl, Nat.le_of_ble_eq_true rfl⟩ ⟨hc1, hc2⟩ (Nat.le_of_ble_eq_true rfl) dL_law_164 rfl (fun x1 J1 hq => ?_)
    obtain ⟨⟨jc, hjc, hx⟩, hJ⟩ := hq
    rw [hx, hJ]
    refine j_cViR (pc' := 170) m_L_21 (p_setZ (s := 2) hD hS2 hk1 (by omega) (Nat.lt_succ_self i) (by omega) (by rw [okS_2]; exact in_ab (by omega) (by omega) (by omega)) (z1 2 (by omega))) Kd (by decide) rfl rfl rfl ⟨Nat.le_of_ble_eq_true rfl, Nat.le_of_ble_eq_true rfl⟩ ⟨hc1, hc2⟩ (Nat.le_of_ble_eq_true rfl) dL_law_167 rfl (fun x1 R1 I1 hq => ?_)
    obtain ⟨hx, hD2⟩ := hq
    rw [hx]
    have hS3 : SI (upd v2 (176 + 56 * i + 2) (nI jc)) (i + 1) := hS2.set (by omega) (by omega)
    have z2 : ∀ w, w = 3 ∨ w = 4 ∨ w = 6 → upd v2 (176 + 56 * i + 2) (nI jc) (176 + 56 * i + w) = nI 0 := fun w hw => (pk_un (by omega)).trans (z1 w (by omega))
    have r2 : upd v2 (176 + 56 * i + 2) (nI jc) (176 + 56 * i + 8) = -1 := (pk_un (by omega)).trans r1
    generalize upd v2 (176 + 56 * i + 2) (nI jc) = v2 at hD2 hS3 z2 r2
    have hD := hD2
    have hS2 := hS3
    have z1 := z2
    have r1 := r2
    refine j_ifF_ne (pc' := 173) (tgt := 243) (by decide) dL_law_170 (by decide) rfl ?_
    refine j_aload_n (pc' := 174) dL_law_173 rfl rfl ?_
    refine j_iload_n (pc' := 175) dL_law_174 rfl rfl ?_
    refine j_iconst (pc' := 176) (v := nI 3) dL_law_175 rfl rfl ?_
    refine j_iload (pc' := 178) dL_law_176 rfl rfl ?_
    refine j_bipush (pc' := 180) (v := nI 17) dL_law_178 rfl rfl ?_
    refine j_ishr (pc' := 181) dL_law_180 rfl ?_
    refine j_iconst (pc' := 182) (v := nI 3) dL_law_181 rfl rfl ?_
    refine j_cSi (pc' := 185) m_L_102 (c_L_up (by omega) (by omega)) rfl rfl ⟨Nat.le_of_ble_eq_true rfl, Nat.le_of_ble_eq_true rfl⟩ ⟨hc1, hc2⟩ (Nat.le_of_ble_eq_true rfl) dL_law_182 rfl (fun x1 J1 hq => ?_)
    obtain ⟨⟨jd, hjd, hx⟩, hJ⟩ := hq
    rw [hx, hJ]
    refine j_cViR (pc' := 188) m_L_21 (p_setZ (s := 3) hD hS2 hk1 (by omega) (Nat.lt_succ_self i) (by omega) (by rw [okS_3]; exact in_ab (by omega) (by omega) (by omega)) (z1 3 (by omega))) Kd (by decide) rfl rfl rfl ⟨Nat.le_of_ble_eq_true rfl, Nat.le_of_ble_eq_true rfl⟩ ⟨hc1, hc2⟩ (Nat.le_of_ble_eq_true rfl) dL_law_185 rfl (fun x1 R1 I1 hq => ?_)
    obtain ⟨hx, hD2⟩ := hq
    rw [hx]
    have hS3 : SI (upd v2 (176 + 56 * i + 3) (nI jd)) (i + 1) := hS2.set (by omega) (by omega)
    have z2 : ∀ w, w = 4 ∨ w = 6 → upd v2 (176 + 56 * i + 3) (nI jd) (176 + 56 * i + w) = nI 0 := fun w hw => (pk_un (by omega)).trans (z1 w (by omega))
    have r2 : upd v2 (176 + 56 * i + 3) (nI jd) (176 + 56 * i + 8) = -1 := (pk_un (by omega)).trans r1
    generalize upd v2 (176 + 56 * i + 3) (nI jd) = v2 at hD2 hS3 z2 r2
    have hD := hD2
    have hS2 := hS3
    have z1 := z2
    have r1 := r2
    refine j_ifF_ne (pc' := 191) (tgt := 243) (by decide) dL_law_188 (by decide) rfl ?_
    refine j_aload_n (pc' := 192) dL_law_191 rfl rfl ?_
    refine j_iload_n (pc' := 193) dL_law_192 rfl rfl ?_
    refine j_iconst (pc' := 194) (v := nI 4) dL_law_193 rfl rfl ?_
    refine j_iload (pc' := 196) dL_law_194 rfl rfl ?_
    refine j_bipush (pc' := 198) (v := nI 19) dL_law_196 rfl rfl ?_
    refine j_ishr (pc' := 199) dL_law_198 rfl ?_
    refine j_iconst (pc' := 200) (v := nI 3) dL_law_199 rfl rfl ?_
    refine j_cSi (pc' := 203) m_L_102 (c_L_up (by omega) (by omega)) rfl rfl ⟨Nat.le_of_ble_eq_true rfl, Nat.le_of_ble_eq_true rfl⟩ ⟨hc1, hc2⟩ (Nat.le_of_ble_eq_true rfl) dL_law_200 rfl (fun x1 J1 hq => ?_)
    obtain ⟨⟨je, hje, hx⟩, hJ⟩ := hq
    rw [hx, hJ]
    refine j_cViR (pc' := 206) m_L_21 (p_setZ (s := 4) hD hS2 hk1 (by omega) (Nat.lt_succ_self i) (by omega) (by rw [okS_4]; exact in_ab (by omega) (by omega) (by omega)) (z1 4 (by omega))) Kd (by decide) rfl rfl rfl ⟨Nat.le_of_ble_eq_true rfl, Nat.le_of_ble_eq_true rfl⟩ ⟨hc1, hc2⟩ (Nat.le_of_ble_eq_true rfl) dL_law_203 rfl (fun x1 R1 I1 hq => ?_)
    obtain ⟨hx, hD2⟩ := hq
    rw [hx]
    have hS3 : SI (upd v2 (176 + 56 * i + 4) (nI je)) (i + 1) := hS2.set (by omega) (by omega)
    have z2 : ∀ w, w = 6 → upd v2 (176 + 56 * i + 4) (nI je) (176 + 56 * i + w) = nI 0 := fun w hw => (pk_un (by omega)).trans (z1 w (by omega))
    have r2 : upd v2 (176 + 56 * i + 4) (nI je) (176 + 56 * i + 8) = -1 := (pk_un (by omega)).trans r1
    generalize upd v2 (176 + 56 * i + 4) (nI je) = v2 at hD2 hS3 z2 r2
    have hD := hD2
    have hS2 := hS3
    have z1 := z2
    have r1 := r2
    refine j_ifF_ne (pc' := 209) (tgt := 243) (by decide) dL_law_206 (by decide) rfl ?_
    refine j_aload_n (pc' := 210) dL_law_209 rfl rfl ?_
    refine j_iload_n (pc' := 211) dL_law_210 rfl rfl ?_
    refine j_bipush (pc' := 213) (v := nI 6) dL_law_211 rfl rfl ?_
    refine j_iload (pc' := 215) dL_law_213 rfl rfl ?_
    refine j_bipush (pc' := 217) (v := nI 21) dL_law_215 rfl rfl ?_
    refine j_ishr (pc' := 218) dL_law_217 rfl ?_
    refine j_iconst (pc' := 219) (v := nI 3) dL_law_218 rfl rfl ?_
    refine j_iand (pc' := 220) dL_law_219 rfl ?_
    refine j_if_ne (pc' := 223) (tgt := 236) dL_law_220 rfl (by decide) (fun c220 => ?_) (fun c220 => ?_)
    ·
      refine j_iconst (pc' := 237) (v := nI 0) dL_law_236 rfl rfl ?_
      refine j_cViR (pc' := 240) m_L_21 (p_setZ (s := 6) hD hS2 hk1 (by omega) (Nat.lt_succ_self i) (by omega) (by rw [okS_6]; exact in_ab (by omega) (by omega) (by omega)) (z1 6 (by omega))) Kd (by decide) rfl rfl rfl ⟨Nat.le_of_ble_eq_true rfl, Nat.le_of_ble_eq_true rfl⟩ ⟨hc1, hc2⟩ (Nat.le_of_ble_eq_true rfl) dL_law_237 rfl (fun x1 R1 I1 hq => ?_)
      obtain ⟨hx, hD2⟩ := hq
      rw [hx]
      have hS3 : SI (upd v2 (176 + 56 * i + 6) (nI 0)) (i + 1) := hS2.set (by omega) (by omega)
      have z2 := True.intro
      have r2 : upd v2 (176 + 56 * i + 6) (nI 0) (176 + 56 * i + 8) = -1 := (pk_un (by omega)).trans r1
      generalize upd v2 (176 + 56 * i + 6) (nI 0) = v2 at hD2 hS3 z2 r2
      have hD := hD2
      have hS2 := hS3
      have z1 := z2
      have r1 := r2
      refine j_ifT_eq (tgt := 245) (by decide) dL_law_240 (by decide) ?_
      refine j_iload (pc' := 247) dL_law_245 rfl rfl ?_
      refine j_bipush (pc' := 249) (v := nI 27) dL_law_247 rfl rfl ?_
      refine j_ishr (pc' := 250) dL_law_249 rfl ?_
      refine j_iload_n (pc' := 251) dL_law_250 rfl rfl ?_
      refine j_iconst (pc' := 252) (v := nI 1) dL_law_251 rfl rfl ?_
      refine j_iaddN' (pc' := 253) (by with_reducible rfl) (by with_reducible rfl) dL_law_252 rfl ?_
      refine j_cSi (pc' := 256) m_L_102 (c_L_up (by omega) (by omega)) rfl rfl ⟨Nat.le_of_ble_eq_true rfl, Nat.le_of_ble_eq_true rfl⟩ ⟨hc1, hc2⟩ (Nat.le_of_ble_eq_true rfl) dL_law_253 rfl (fun x1 J1 hq => ?_)
      obtain ⟨⟨jr, hjr, hx⟩, hJ⟩ := hq
      rw [hx, hJ]
      refine j_iconst (pc' := 257) (v := nI 1) dL_law_256 rfl rfl ?_
      refine j_isub (pc' := 258) dL_law_257 rfl ?_
      refine j_istore (pc' := 260) (lv' := [_, _, _, _, _, _, _, _, _, _, _]) dL_law_258 rfl (by decide) rfl ?_
      refine j_iload (pc' := 262) dL_law_260 rfl rfl ?_
      refine j_iconst (pc' := 263) (v := nI 4) dL_law_262 rfl rfl ?_
      refine j_ishr (pc' := 264) dL_law_263 rfl ?_
      refine j_iconst (pc' := 265) (v := nI 1) dL_law_264 rfl rfl ?_
      refine j_iand (pc' := 266) dL_law_265 rfl ?_
      refine j_iconst (pc' := 267) (v := nI 1) dL_law_266 rfl rfl ?_
      refine j_icmp_ne (pc' := 270) (tgt := 283) dL_law_267 rfl (by decide) (fun c267 => ?_) (fun c267 => ?_)
      ·
        refine j_iincN (pc' := 286) (lv' := [_, _, _, _, _, _, _, _, _, _, _]) dL_law_283 rfl rfl (by decide) rfl ?_
        refine j_goto (tgt := 94) dL_law_286 (by decide) ?_
        exact ih (i + 1) _ _ _ _ _ _ _ _ _ _ _ _ _ (by omega) (by omega) hD hS2 (by omega)
      ·
        obtain ⟨S2, N2, hV2, hN2, _⟩ := hD.to hS2.1.1 hk1 hS2.1.2.1 (by omega)
        have hrv := root_v (i := i) hjr (by omega)
        have hcl := climb_lo hk1 (Nat.lt_succ_self i) (fun j hj => (hS2.2.2 j hj).2) 16 _ hrv
        have hcR : okP v2 (nI i) = true ∧ (nI jr - nI 1 = -1 ∨ okP v2 (nI jr - nI 1) = true) := ⟨okP_of hV2.z hk1 (Nat.lt_succ_self i), hrv.imp id (fun z => by obtain ⟨r, hr, e⟩ := z; rw [e]; exact okP_of hV2.z hk1 (by omega))⟩
        refine j_aload_n (pc' := 271) dL_law_270 rfl rfl ?_
        refine j_iload_n (pc' := 272) dL_law_271 rfl rfl ?_
        refine j_iload (pc' := 274) dL_law_272 rfl rfl ?_
        refine j_cViR (pc' := 277) m_L_25 (p_setRoots hD hV2 (by omega) (by omega) (a := -1) (w := upd v2 (176 + 56 * i + 8) (nI jr - nI 1)) ((if_pos hcR).trans ((if_neg hcl).trans (by rw [nI_clamp (show i < 2147483648 from by omega)]; exact r1))) (by decide) ((if_pos ⟨hcR, hcl⟩).trans (by rw [nI_clamp (show i < 2147483648 from by omega)]))) Kd (by decide) rfl rfl rfl ⟨Nat.le_of_ble_eq_true rfl, Nat.le_of_ble_eq_true rfl⟩ ⟨hc1, hc2⟩ (Nat.le_of_ble_eq_true rfl) dL_law_274 rfl (fun x1 R1 I1 hq => ?_)
        obtain ⟨hx, hD2⟩ := hq
        rw [hx]
        have hS3 := hS2.root (i := i) hrv
        skip
        refine j_iconst (pc' := 278) (v := (-1)) dL_law_277 rfl rfl ?_
        refine j_icmpT_eq (tgt := 283) (rfl) dL_law_278 (by decide) ?_
        refine j_iincN (pc' := 286) (lv' := [_, _, _, _, _, _, _, _, _, _, _]) dL_law_283 rfl rfl (by decide) rfl ?_
        refine j_goto (tgt := 94) dL_law_286 (by decide) ?_
        exact ih (i + 1) _ _ _ _ _ _ _ _ _ _ _ _ _ (by omega) (by omega) hD2 hS3 (by omega)
    ·
      refine j_iload (pc' := 225) dL_law_223 rfl rfl ?_
      refine j_bipush (pc' := 227) (v := nI 23) dL_law_225 rfl rfl ?_
      refine j_ishr (pc' := 228) dL_law_227 rfl ?_
      refine j_bipush (pc' := 230) (v := nI 16) dL_law_228 rfl rfl ?_
      refine j_cSi (pc' := 233) m_L_102 (c_L_up (by omega) (by omega)) rfl rfl ⟨Nat.le_of_ble_eq_true rfl, Nat.le_of_ble_eq_true rfl⟩ ⟨hc1, hc2⟩ (Nat.le_of_ble_eq_true rfl) dL_law_230 rfl (fun x1 J1 hq => ?_)
      obtain ⟨⟨jf, hjf, hx⟩, hJ⟩ := hq
      rw [hx, hJ]
      refine j_goto (tgt := 237) dL_law_233 (by decide) ?_
      refine j_cViR (pc' := 240) m_L_21 (p_setZ (s := 6) hD hS2 hk1 (by omega) (Nat.lt_succ_self i) (by omega) (by rw [okS_6]; exact in_ab (by omega) (by omega) (by omega)) (z1 6 (by omega))) Kd (by decide) rfl rfl rfl ⟨Nat.le_of_ble_eq_true rfl, Nat.le_of_ble_eq_true rfl⟩ ⟨hc1, hc2⟩ (Nat.le_of_ble_eq_true rfl) dL_law_237 rfl (fun x1 R1 I1 hq => ?_)
      obtain ⟨hx, hD2⟩ := hq
      rw [hx]
      have hS3 : SI (upd v2 (176 + 56 * i + 6) (nI jf)) (i + 1) := hS2.set (by omega) (by omega)
      have z2 := True.intro
      have r2 : upd v2 (176 + 56 * i + 6) (nI jf) (176 + 56 * i + 8) = -1 := (pk_un (by omega)).trans r1
      generalize upd v2 (176 + 56 * i + 6) (nI jf) = v2 at hD2 hS3 z2 r2
      have hD := hD2
      have hS2 := hS3
      have z1 := z2
      have r1 := r2
      refine j_ifT_eq (tgt := 245) (by decide) dL_law_240 (by decide) ?_
      refine j_iload (pc' := 247) dL_law_245 rfl rfl ?_
      refine j_bipush (pc' := 249) (v := nI 27) dL_law_247 rfl rfl ?_
      refine j_ishr (pc' := 250) dL_law_249 rfl ?_
      refine j_iload_n (pc' := 251) dL_law_250 rfl rfl ?_
      refine j_iconst (pc' := 252) (v := nI 1) dL_law_251 rfl rfl ?_
      refine j_iaddN' (pc' := 253) (by with_reducible rfl) (by with_reducible rfl) dL_law_252 rfl ?_
      refine j_cSi (pc' := 256) m_L_102 (c_L_up (by omega) (by omega)) rfl rfl ⟨Nat.le_of_ble_eq_true rfl, Nat.le_of_ble_eq_true rfl⟩ ⟨hc1, hc2⟩ (Nat.le_of_ble_eq_true rfl) dL_law_253 rfl (fun x1 J1 hq => ?_)
      obtain ⟨⟨jr, hjr, hx⟩, hJ⟩ := hq
      rw [hx, hJ]
      refine j_iconst (pc' := 257) (v := nI 1) dL_law_256 rfl rfl ?_
      refine j_isub (pc' := 258) dL_law_257 rfl ?_
      refine j_istore (pc' := 260) (lv' := [_, _, _, _, _, _, _, _, _, _, _]) dL_law_258 rfl (by decide) rfl ?_
      refine j_iload (pc' := 262) dL_law_260 rfl rfl ?_
      refine j_iconst (pc' := 263) (v := nI 4) dL_law_262 rfl rfl ?_
      refine j_ishr (pc' := 264) dL_law_263 rfl ?_
      refine j_iconst (pc' := 265) (v := nI 1) dL_law_264 rfl rfl ?_
      refine j_iand (pc' := 266) dL_law_265 rfl ?_
      refine j_iconst (pc' := 267) (v := nI 1) dL_law_266 rfl rfl ?_
      refine j_icmp_ne (pc' := 270) (tgt := 283) dL_law_267 rfl (by decide) (fun c267 => ?_) (fun c267 => ?_)
      ·
        refine j_iincN (pc' := 286) (lv' := [_, _, _, _, _, _, _, _, _, _, _]) dL_law_283 rfl rfl (by decide) rfl ?_
        refine j_goto (tgt := 94) dL_law_286 (by decide) ?_
        exact ih (i + 1) _ _ _ _ _ _ _ _ _ _ _ _ _ (by omega) (by omega) hD hS2 (by omega)
      ·
        obtain ⟨S2, N2, hV2, hN2, _⟩ := hD.to hS2.1.1 hk1 hS2.1.2.1 (by omega)
        have hrv := root_v (i := i) hjr (by omega)
        have hcl := climb_lo hk1 (Nat.lt_succ_self i) (fun j hj => (hS2.2.2 j hj).2) 16 _ hrv
        have hcR : okP v2 (nI i) = true ∧ (nI jr - nI 1 = -1 ∨ okP v2 (nI jr - nI 1) = true) := ⟨okP_of hV2.z hk1 (Nat.lt_succ_self i), hrv.imp id (fun z => by obtain ⟨r, hr, e⟩ := z; rw [e]; exact okP_of hV2.z hk1 (by omega))⟩
        refine j_aload_n (pc' := 271) dL_law_270 rfl rfl ?_
        refine j_iload_n (pc' := 272) dL_law_271 rfl rfl ?_
        refine j_iload (pc' := 274) dL_law_272 rfl rfl ?_
        refine j_cViR (pc' := 277) m_L_25 (p_setRoots hD hV2 (by omega) (by omega) (a := -1) (w := upd v2 (176 + 56 * i + 8) (nI jr - nI 1)) ((if_pos hcR).trans ((if_neg hcl).trans (by rw [nI_clamp (show i < 2147483648 from by omega)]; exact r1))) (by decide) ((if_pos ⟨hcR, hcl⟩).trans (by rw [nI_clamp (show i < 2147483648 from by omega)]))) Kd (by decide) rfl rfl rfl ⟨Nat.le_of_ble_eq_true rfl, Nat.le_of_ble_eq_true rfl⟩ ⟨hc1, hc2⟩ (Nat.le_of_ble_eq_true rfl) dL_law_274 rfl (fun x1 R1 I1 hq => ?_)
        obtain ⟨hx, hD2⟩ := hq
        rw [hx]
        have hS3 := hS2.root (i := i) hrv
        skip
        refine j_iconst (pc' := 278) (v := (-1)) dL_law_277 rfl rfl ?_
        refine j_icmpT_eq (tgt := 283) (rfl) dL_law_278 (by decide) ?_
        refine j_iincN (pc' := 286) (lv' := [_, _, _, _, _, _, _, _, _, _, _]) dL_law_283 rfl rfl (by decide) rfl ?_
        refine j_goto (tgt := 94) dL_law_286 (by decide) ?_
        exact ih (i + 1) _ _ _ _ _ _ _ _ _ _ _ _ _ (by omega) (by omega) hD2 hS3 (by omega)
