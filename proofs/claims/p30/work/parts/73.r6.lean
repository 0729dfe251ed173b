set_option maxRecDepth 100000 in
set_option maxHeartbeats 4000000 in
theorem lp_list {E : jx_E} {l : Launch} {n : Nat} {kd : jx_K} {R : jx_R} {d : Nat} {v p : Nat → Int32} {q B k T S N : Nat} (hV : VI v k T S N) (hN : N ≤ B) (hB : B + 100000 < 2147483000) : ∀ (z j : Nat) (I : jx_I) (y4 y5 y6 : Option Value), DK kd R I d v p q B → z + j = (lsF v (fun _ => 0) k).2 → j ≤ (lsF v (fun _ => 0) k).2 → jx_J E l cL_list 7 (some .boolean) RL false (jx_rm 6) 0 0 (jx_Q0 n kd R (jx_Pi (fun r I' => r = nI 1 ∧ DK kd R I' d v p q B))) 0 0 n kd R I 4 [some (.ref d), some (.int (nI ((lsF v (fun _ => 0) k).2))), some (.int (sn (lsF v (fun _ => 0) k).1 j)), some (.int (nI j)), y4, y5, y6] [] := by
  have h16 := hV.k16
  obtain ⟨g0, g1, g2, g3, _⟩ := lsF_good (o0 := fun _ => 0) hV k (Nat.le_refl _)
  intro z
  induction z with
  | zero =>
    intro j I y4 y5 y6 hD hz hj0
    have Kd := hD.k5
    have e : j = (lsF v (fun _ => 0) k).2 := by omega
    rw [e]
    refine j_iload_n (pc' := 5) dL_list_4 rfl rfl ?_
    refine j_iload_n (pc' := 6) dL_list_5 rfl rfl ?_
    refine j_icmpT_ge (tgt := 164) (nI_le (Nat.le_refl _) (by omega)) dL_list_6 (by decide) ?_
    refine j_aload_n (pc' := 165) dL_list_164 rfl rfl ?_
    refine j_iload_n (pc' := 166) dL_list_165 rfl rfl ?_
    refine j_cVi (pc' := 169) m_L_56 (p_list hD hV (by omega) (by omega) (a := (-20009)) (fLs_o (by omega) (Nat.le_refl _))) Kd (by decide) rfl rfl rfl ⟨Nat.le_of_ble_eq_true rfl, Nat.le_of_ble_eq_true rfl⟩ ⟨Nat.le_of_ble_eq_true rfl, Nat.le_of_ble_eq_true rfl⟩ (Nat.le_of_ble_eq_true rfl) dL_list_166 rfl (fun x1 I1 hq => ?_)
    obtain ⟨hx, hD⟩ := hq
    rw [hx]
    refine j_sipush (pc' := 172) (v := (-20009)) dL_list_169 rfl rfl ?_
    refine j_icmpF_ne (pc' := 175) (tgt := 179) (by decide) dL_list_172 (by decide) rfl ?_
    refine j_iconst (pc' := 176) (v := nI 1) dL_list_175 rfl rfl ?_
    refine j_goto (tgt := 180) dL_list_176 (by decide) ?_
    refine j_reti dL_list_180 rfl (by first | rfl | exact bi_n _) ?_
    exact ⟨rfl, hD⟩
  | succ z ih =>
    intro j I y4 y5 y6 hD hz hj0
    have Kd := hD.k5
    have hj : j < (lsF v (fun _ => 0) k).2 := by omega
    obtain ⟨qq, hqk, eq, hw⟩ := g1 j hj
    have hsn : ∀ a, a < j → ∃ q, q < 16 ∧ (lsF v (fun _ => 0) k).1 a = nI q := fun a ha => by
      obtain ⟨qa, b1, b2, _⟩ := g1 a (by omega)
      exact ⟨qa, by omega, b2⟩
    have hne : ∀ a, a < j → (lsF v (fun _ => 0) k).1 a ≠ nI qq := fun a ha z => g2 a j (by omega) hj (by omega) (z.trans eq.symm)
    refine j_iload_n (pc' := 5) dL_list_4 rfl rfl ?_
    refine j_iload_n (pc' := 6) dL_list_5 rfl rfl ?_
    refine j_icmpF_ge (pc' := 9) (tgt := 164) (nI_ge hj (by omega)) dL_list_6 (by decide) rfl ?_
    refine j_aload_n (pc' := 10) dL_list_9 rfl rfl ?_
    refine j_iload_n (pc' := 11) dL_list_10 rfl rfl ?_
    refine j_cVi (pc' := 14) m_L_56 (p_list hD hV (by omega) (by omega) (a := nI qq) ((fLs_i h16 hj).trans eq)) Kd (by decide) rfl rfl rfl ⟨Nat.le_of_ble_eq_true rfl, Nat.le_of_ble_eq_true rfl⟩ ⟨Nat.le_of_ble_eq_true rfl, Nat.le_of_ble_eq_true rfl⟩ (Nat.le_of_ble_eq_true rfl) dL_list_11 rfl (fun x1 I1 hq => ?_)
    obtain ⟨hx, hD⟩ := hq
    rw [hx]
    refine j_istore (pc' := 16) (lv' := [_, _, _, _, _, _, _]) dL_list_14 rfl (by decide) rfl ?_
    refine j_iload (pc' := 18) dL_list_16 rfl rfl ?_
    refine j_ifF_lt (pc' := 21) (tgt := 42) (nI_pos (by omega)) dL_list_18 (by decide) rfl ?_
    refine j_iload_n (pc' := 22) dL_list_21 rfl rfl ?_
    refine j_iload (pc' := 24) dL_list_22 rfl rfl ?_
    refine j_ishr (pc' := 25) dL_list_24 rfl ?_
    refine j_iconst (pc' := 26) (v := nI 1) dL_list_25 rfl rfl ?_
    refine j_iand (pc' := 27) dL_list_26 rfl ?_
    refine j_iconst (pc' := 28) (v := nI 1) dL_list_27 rfl rfl ?_
    refine j_icmpF_eq (pc' := 31) (tgt := 42) (sn_not (by omega) hsn hne) dL_list_28 (by decide) rfl ?_
    refine j_aload_n (pc' := 32) dL_list_31 rfl rfl ?_
    refine j_iload (pc' := 34) dL_list_32 rfl rfl ?_
    refine j_bipush (pc' := 36) (v := nI 15) dL_list_34 rfl rfl ?_
    refine j_cVi (pc' := 39) m_L_31 (p_point hD hV (by omega) (by omega) (a := nI 0) ((fPt_15 hV.z h16 hqk).trans hw)) Kd (by decide) rfl rfl rfl ⟨Nat.le_of_ble_eq_true rfl, Nat.le_of_ble_eq_true rfl⟩ ⟨Nat.le_of_ble_eq_true rfl, Nat.le_of_ble_eq_true rfl⟩ (Nat.le_of_ble_eq_true rfl) dL_list_36 rfl (fun x1 J1 hq => ?_)
    obtain ⟨hx, hI⟩ := hq
    rw [hx, hI]
    refine j_ifT_eq (tgt := 44) (by decide) dL_list_39 (by decide) ?_
    refine j_iload_n (pc' := 45) dL_list_44 rfl rfl ?_
    refine j_iconst (pc' := 46) (v := nI 1) dL_list_45 rfl rfl ?_
    refine j_iload (pc' := 48) dL_list_46 rfl rfl ?_
    refine j_ishl (pc' := 49) dL_list_48 rfl ?_
    refine j_ior (pc' := 50) dL_list_49 rfl ?_
    refine j_istore_n (pc' := 51) (lv' := [_, _, _, _, _, _, _]) dL_list_50 rfl (by decide) rfl ?_
    refine j_iload_n (pc' := 52) dL_list_51 rfl rfl ?_
    refine j_if_le (pc' := 55) (tgt := 158) dL_list_52 rfl (by decide) (fun c52 => ?_) (fun c52 => ?_)
    ·
      refine j_iincN (pc' := 161) (lv' := [_, _, _, _, _, _, _]) dL_list_158 rfl rfl (by decide) rfl ?_
      refine j_goto (tgt := 4) dL_list_161 (by decide) ?_
      have e : sn (lsF v (fun _ => 0) k).1 (j + 1) = sn (lsF v (fun _ => 0) k).1 j ||| (nI 1 <<< (nI qq &&& 31)) := by rw [sn, eq]
      rw [← e]
      exact ih (j + 1) I1 _ _ _ hD (by omega) (by omega)
    ·
      have hj1 : 1 ≤ j := Nat.pos_of_ne_zero (fun z => c52 (by rw [z]; decide))
      obtain ⟨q2, hq2, eq2, _⟩ := g1 (j - 1) (by omega)
      have hsr := g3 (j - 1) (by omega)
      rw [show j - 1 + 1 = j from by omega, eq, eq2, nI_clamp (show q2 < 2147483648 from by omega), nI_clamp (show qq < 2147483648 from by omega), ah_iff] at hsr
      have hgt : ¬ 0 < sA3 v q2 qq := by
        rw [Int32.lt_iff_toInt_lt]
        have : (0 : Int32).toInt = 0 := rfl
        omega
      have hlt : sA3 v q2 qq = 0 → q2 < qq := fun z => by have := i32_z.mp z; omega
      refine j_aload_n (pc' := 56) dL_list_55 rfl rfl ?_
      refine j_iload_n (pc' := 57) dL_list_56 rfl rfl ?_
      refine j_iconst (pc' := 58) (v := nI 1) dL_list_57 rfl rfl ?_
      refine j_isubN' (pc' := 59) (by with_reducible rfl) (by with_reducible rfl) (by omega) dL_list_58 rfl ?_
      refine j_cVi (pc' := 62) m_L_56 (p_list hD hV (by omega) (by omega) (a := nI q2) ((fLs_i h16 (by omega)).trans eq2)) Kd (by decide) rfl rfl rfl ⟨Nat.le_of_ble_eq_true rfl, Nat.le_of_ble_eq_true rfl⟩ ⟨Nat.le_of_ble_eq_true rfl, Nat.le_of_ble_eq_true rfl⟩ (Nat.le_of_ble_eq_true rfl) dL_list_59 rfl (fun x1 I1 hq => ?_)
      obtain ⟨hx, hD⟩ := hq
      rw [hx]
      refine j_istore (pc' := 64) (lv' := [_, _, _, _, _, _, _]) dL_list_62 rfl (by decide) rfl ?_
      refine j_aload_n (pc' := 65) dL_list_64 rfl rfl ?_
      refine j_iload (pc' := 67) dL_list_65 rfl rfl ?_
      refine j_iconst (pc' := 68) (v := nI 5) dL_list_67 rfl rfl ?_
      refine j_cVi (pc' := 71) m_L_31 (p_point hD hV (by omega) (by omega) (a := v (176 + 56 * q2 + 5)) (fPt_w hV.z h16 hq2 (show 5 < 15 from by omega))) Kd (by decide) rfl rfl rfl ⟨Nat.le_of_ble_eq_true rfl, Nat.le_of_ble_eq_true rfl⟩ ⟨Nat.le_of_ble_eq_true rfl, Nat.le_of_ble_eq_true rfl⟩ (Nat.le_of_ble_eq_true rfl) dL_list_68 rfl (fun x1 J1 hq => ?_)
      obtain ⟨hx, hI⟩ := hq
      rw [hx, hI]
      refine j_aload_n (pc' := 72) dL_list_71 rfl rfl ?_
      refine j_iload (pc' := 74) dL_list_72 rfl rfl ?_
      refine j_iconst (pc' := 75) (v := nI 5) dL_list_74 rfl rfl ?_
      refine j_cVi (pc' := 78) m_L_31 (p_point hD hV (by omega) (by omega) (a := v (176 + 56 * qq + 5)) (fPt_w hV.z h16 hqk (show 5 < 15 from by omega))) Kd (by decide) rfl rfl rfl ⟨Nat.le_of_ble_eq_true rfl, Nat.le_of_ble_eq_true rfl⟩ ⟨Nat.le_of_ble_eq_true rfl, Nat.le_of_ble_eq_true rfl⟩ (Nat.le_of_ble_eq_true rfl) dL_list_75 rfl (fun x1 J1 hq => ?_)
      obtain ⟨hx, hI⟩ := hq
      rw [hx, hI]
      refine j_isub (pc' := 79) dL_list_78 rfl ?_
      refine j_istore (pc' := 81) (lv' := [_, _, _, _, _, _, _]) dL_list_79 rfl (by decide) rfl ?_
      refine j_iload (pc' := 83) dL_list_81 rfl rfl ?_
      refine jx_cut (B := jx_J E l cL_list 7 (some .boolean) RL false (jx_rm 6) 0 0 (jx_Q0 n kd R (jx_Pi (fun r I' => r = nI 1 ∧ DK kd R I' d v p q B))) 0 0 n kd R I1 108 [some (.ref d), some (.int (nI ((lsF v (fun _ => 0) k).2))), some (.int ((sn (lsF v (fun _ => 0) k).1 j) ||| (nI 1) <<< ((nI qq) &&& 31))), some (.int (nI j)), some (.int (nI qq)), some (.int (nI q2)), some (.int ((v (176 + 56 * q2 + 5)) - (v (176 + 56 * qq + 5))))] [.int (sA2 v q2 qq)]) (fun kk => ?_) ?_
      ·
        refine j_if_ne (pc' := 86) (tgt := 106) dL_list_83 rfl (by decide) (fun c83 => ?_) (fun c83 => ?_)
        ·
          refine j_iload (pc' := 108) dL_list_106 rfl rfl ?_
          first | (rw [show sA2 v q2 qq = _ from if_neg c83] at kk; exact kk) | (rw [show sA2 v q2 qq = _ from if_pos c83] at kk; exact kk)
        ·
          refine j_aload_n (pc' := 87) dL_list_86 rfl rfl ?_
          refine j_iload (pc' := 89) dL_list_87 rfl rfl ?_
          refine j_bipush (pc' := 91) (v := nI 10) dL_list_89 rfl rfl ?_
          refine j_cVi (pc' := 94) m_L_31 (p_point hD hV (by omega) (by omega) (a := v (176 + 56 * q2 + 10)) (fPt_w hV.z h16 hq2 (show 10 < 15 from by omega))) Kd (by decide) rfl rfl rfl ⟨Nat.le_of_ble_eq_true rfl, Nat.le_of_ble_eq_true rfl⟩ ⟨Nat.le_of_ble_eq_true rfl, Nat.le_of_ble_eq_true rfl⟩ (Nat.le_of_ble_eq_true rfl) dL_list_91 rfl (fun x1 J1 hq => ?_)
          obtain ⟨hx, hI⟩ := hq
          rw [hx, hI]
          refine j_aload_n (pc' := 95) dL_list_94 rfl rfl ?_
          refine j_iload (pc' := 97) dL_list_95 rfl rfl ?_
          refine j_bipush (pc' := 99) (v := nI 10) dL_list_97 rfl rfl ?_
          refine j_cVi (pc' := 102) m_L_31 (p_point hD hV (by omega) (by omega) (a := v (176 + 56 * qq + 10)) (fPt_w hV.z h16 hqk (show 10 < 15 from by omega))) Kd (by decide) rfl rfl rfl ⟨Nat.le_of_ble_eq_true rfl, Nat.le_of_ble_eq_true rfl⟩ ⟨Nat.le_of_ble_eq_true rfl, Nat.le_of_ble_eq_true rfl⟩ (Nat.le_of_ble_eq_true rfl) dL_list_99 rfl (fun x1 J1 hq => ?_)
          obtain ⟨hx, hI⟩ := hq
          rw [hx, hI]
          refine j_isub (pc' := 103) dL_list_102 rfl ?_
          refine j_goto (tgt := 108) dL_list_103 (by decide) ?_
          first | (rw [show sA2 v q2 qq = _ from if_neg c83] at kk; exact kk) | (rw [show sA2 v q2 qq = _ from if_pos c83] at kk; exact kk)
      ·
        refine j_istore (pc' := 110) (lv' := [_, _, _, _, _, _, _]) dL_list_108 rfl (by decide) rfl ?_
        refine j_iload (pc' := 112) dL_list_110 rfl rfl ?_
        refine jx_cut (B := jx_J E l cL_list 7 (some .boolean) RL false (jx_rm 6) 0 0 (jx_Q0 n kd R (jx_Pi (fun r I' => r = nI 1 ∧ DK kd R I' d v p q B))) 0 0 n kd R I1 137 [some (.ref d), some (.int (nI ((lsF v (fun _ => 0) k).2))), some (.int ((sn (lsF v (fun _ => 0) k).1 j) ||| (nI 1) <<< ((nI qq) &&& 31))), some (.int (nI j)), some (.int (nI qq)), some (.int (nI q2)), some (.int (sA2 v q2 qq))] [.int (sA3 v q2 qq)]) (fun kk => ?_) ?_
        ·
          refine j_if_ne (pc' := 115) (tgt := 135) dL_list_112 rfl (by decide) (fun c112 => ?_) (fun c112 => ?_)
          ·
            refine j_iload (pc' := 137) dL_list_135 rfl rfl ?_
            first | (rw [show sA3 v q2 qq = _ from if_neg c112] at kk; exact kk) | (rw [show sA3 v q2 qq = _ from if_pos c112] at kk; exact kk)
          ·
            refine j_aload_n (pc' := 116) dL_list_115 rfl rfl ?_
            refine j_iload (pc' := 118) dL_list_116 rfl rfl ?_
            refine j_bipush (pc' := 120) (v := nI 12) dL_list_118 rfl rfl ?_
            refine j_cVi (pc' := 123) m_L_31 (p_point hD hV (by omega) (by omega) (a := v (176 + 56 * q2 + 12)) (fPt_w hV.z h16 hq2 (show 12 < 15 from by omega))) Kd (by decide) rfl rfl rfl ⟨Nat.le_of_ble_eq_true rfl, Nat.le_of_ble_eq_true rfl⟩ ⟨Nat.le_of_ble_eq_true rfl, Nat.le_of_ble_eq_true rfl⟩ (Nat.le_of_ble_eq_true rfl) dL_list_120 rfl (fun x1 J1 hq => ?_)
            obtain ⟨hx, hI⟩ := hq
            rw [hx, hI]
            refine j_aload_n (pc' := 124) dL_list_123 rfl rfl ?_
            refine j_iload (pc' := 126) dL_list_124 rfl rfl ?_
            refine j_bipush (pc' := 128) (v := nI 12) dL_list_126 rfl rfl ?_
            refine j_cVi (pc' := 131) m_L_31 (p_point hD hV (by omega) (by omega) (a := v (176 + 56 * qq + 12)) (fPt_w hV.z h16 hqk (show 12 < 15 from by omega))) Kd (by decide) rfl rfl rfl ⟨Nat.le_of_ble_eq_true rfl, Nat.le_of_ble_eq_true rfl⟩ ⟨Nat.le_of_ble_eq_true rfl, Nat.le_of_ble_eq_true rfl⟩ (Nat.le_of_ble_eq_true rfl) dL_list_128 rfl (fun x1 J1 hq => ?_)
            obtain ⟨hx, hI⟩ := hq
            rw [hx, hI]
            refine j_isub (pc' := 132) dL_list_131 rfl ?_
            refine j_goto (tgt := 137) dL_list_132 (by decide) ?_
            first | (rw [show sA3 v q2 qq = _ from if_neg c112] at kk; exact kk) | (rw [show sA3 v q2 qq = _ from if_pos c112] at kk; exact kk)
        ·
          refine j_istore (pc' := 139) (lv' := [_, _, _, _, _, _, _]) dL_list_137 rfl (by decide) rfl ?_
          refine j_iload (pc' := 141) dL_list_139 rfl rfl ?_
          refine j_ifF_gt (pc' := 144) (tgt := 156) (hgt) dL_list_141 (by decide) rfl ?_
          refine j_iload (pc' := 146) dL_list_144 rfl rfl ?_
          refine j_if_ne (pc' := 149) (tgt := 158) dL_list_146 rfl (by decide) (fun c146 => ?_) (fun c146 => ?_)
          ·
            refine j_iincN (pc' := 161) (lv' := [_, _, _, _, _, _, _]) dL_list_158 rfl rfl (by decide) rfl ?_
            refine j_goto (tgt := 4) dL_list_161 (by decide) ?_
            have e : sn (lsF v (fun _ => 0) k).1 (j + 1) = sn (lsF v (fun _ => 0) k).1 j ||| (nI 1 <<< (nI qq &&& 31)) := by rw [sn, eq]
            rw [← e]
            exact ih (j + 1) I1 _ _ _ hD (by omega) (by omega)
          ·
            refine j_iload (pc' := 151) dL_list_149 rfl rfl ?_
            refine j_iload (pc' := 153) dL_list_151 rfl rfl ?_
            refine j_icmpT_le (tgt := 158) (nI_le (by have := hlt c146; omega) (by omega)) dL_list_153 (by decide) ?_
            refine j_iincN (pc' := 161) (lv' := [_, _, _, _, _, _, _]) dL_list_158 rfl rfl (by decide) rfl ?_
            refine j_goto (tgt := 4) dL_list_161 (by decide) ?_
            have e : sn (lsF v (fun _ => 0) k).1 (j + 1) = sn (lsF v (fun _ => 0) k).1 j ||| (nI 1 <<< (nI qq &&& 31)) := by rw [sn, eq]
            rw [← e]
            exact ih (j + 1) I1 _ _ _ hD (by omega) (by omega)
set_option maxRecDepth 100000 in
set_option maxHeartbeats 4000000 in
theorem c_L_list {E : jx_E} {l : Launch} {n : Nat} {kd : jx_K} {R : jx_R} {I : jx_I} {d : Nat} {v p : Nat → Int32} {q B k T S N : Nat} (hD : DK kd R I d v p q B) (hV : VI v k T S N) (hN : N ≤ B) (hB : B + 100000 < 2147483000) : jx_Ci E l yL_list cL_list 7 (some .boolean) 6 n kd R I [.ref d, .int (nI ((lsF v (fun _ => 0) k).2))] (fun r I' => r = nI 1 ∧ DK kd R I' d v p q B) := by
  have Kd := hD.k5
  refine jx_C0.ofJ RL [some (.ref d), some (.int (nI ((lsF v (fun _ => 0) k).2))), none, none, none, none, none] (by decide) rfl rfl (Nat.le_of_ble_eq_true rfl) rfl ?_
  refine j_iconst (pc' := 1) (v := nI 0) dL_list_0 rfl rfl ?_
  refine j_istore_n (pc' := 2) (lv' := [_, _, _, _, _, _, _]) dL_list_1 rfl (by decide) rfl ?_
  refine j_iconst (pc' := 3) (v := nI 0) dL_list_2 rfl rfl ?_
  refine j_istore_n (pc' := 4) (lv' := [_, _, _, _, _, _, _]) dL_list_3 rfl (by decide) rfl ?_
  exact lp_list hV (by omega) hB (lsF v (fun _ => 0) k).2 0 _ none none none hD (Nat.add_zero _) (Nat.zero_le _)
