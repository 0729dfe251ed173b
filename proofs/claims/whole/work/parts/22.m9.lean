def sA1 (v : Nat → Int32) (i j : Nat) : Int32 := v (176 + 56 * i + 5) - v (176 + 56 * j + 5)
def sA2 (v : Nat → Int32) (i j : Nat) : Int32 := if sA1 v i j = 0 then v (176 + 56 * i + 10) - v (176 + 56 * j + 10) else sA1 v i j
def sA3 (v : Nat → Int32) (i j : Nat) : Int32 := if sA2 v i j = 0 then v (176 + 56 * i + 12) - v (176 + 56 * j + 12) else sA2 v i j
def sAhead (v : Nat → Int32) (i j : Nat) : Bool := if sA3 v i j = 0 then decide (i < j) else decide (sA3 v i j < 0)

set_option maxRecDepth 100000 in
set_option maxHeartbeats 4000000 in
theorem c_X6_isAhead {E : jx_E} {l : Launch} {n : Nat} {kd : jx_K} {R : jx_R} {I0 : jx_I} {m : Nat} {F v a p o t c : Nat → Int32} {i j : Nat} (hs : sMd kd R m) (hi : i < 16) (hj : j < 16) : jx_Ci E l yX6_isAhead cX6_isAhead 4 (some .boolean) 1 n kd R (mI I0 m F v a p o t c) [.ref m, .int (nI i), .int (nI j)] (fun r I' => r = bi (sAhead v i j) ∧ I' = mI I0 m F v a p o t c) := by
  obtain ⟨K0, K1, K2, K3, K4, K5, K6, R0, R1, R2, R4, R6, R10⟩ := id hs
  refine jx_C0.ofJ RX6 [some (.ref m), some (.int (nI i)), some (.int (nI j)), none] (by decide) rfl rfl (Nat.le_of_ble_eq_true rfl) rfl ?_
  refine j_aload_n (pc' := 1) dX6_isAhead_0 rfl rfl ?_
  refine j_iload_n (pc' := 2) dX6_isAhead_1 rfl rfl ?_
  refine j_iconst (pc' := 3) (v := nI 5) dX6_isAhead_2 rfl rfl ?_
  refine j_cVi (pc' := 6) m_X6_59 (c_X6_of hs (by omega) (by omega)) (by assumption) (by decide) rfl rfl rfl ⟨Nat.le_of_ble_eq_true rfl, Nat.le_of_ble_eq_true rfl⟩ ⟨Nat.zero_le _, Nat.zero_le _⟩ (Nat.le_of_ble_eq_true rfl) dX6_isAhead_3 rfl (fun x1 I1 hq => ?_)
  obtain ⟨rfl, rfl⟩ := hq
  refine j_aload_n (pc' := 7) dX6_isAhead_6 rfl rfl ?_
  refine j_iload_n (pc' := 8) dX6_isAhead_7 rfl rfl ?_
  refine j_iconst (pc' := 9) (v := nI 5) dX6_isAhead_8 rfl rfl ?_
  refine j_cVi (pc' := 12) m_X6_59 (c_X6_of hs (by omega) (by omega)) (by assumption) (by decide) rfl rfl rfl ⟨Nat.le_of_ble_eq_true rfl, Nat.le_of_ble_eq_true rfl⟩ ⟨Nat.zero_le _, Nat.zero_le _⟩ (Nat.le_of_ble_eq_true rfl) dX6_isAhead_9 rfl (fun x1 I1 hq => ?_)
  obtain ⟨rfl, rfl⟩ := hq
  refine j_isub (pc' := 13) dX6_isAhead_12 rfl ?_
  refine j_istore_n (pc' := 14) (lv' := [_, _, _, _]) dX6_isAhead_13 rfl (by decide) rfl ?_
  refine j_iload_n (pc' := 15) dX6_isAhead_14 rfl rfl ?_
  first | refine j_if_neB' (tgt := 36) (pc' := 18) (by with_reducible rfl) dX6_isAhead_15 rfl (by decide) (fun c15 => ?_) (fun c15 => ?_) | refine j_if_neN' (tgt := 36) (pc' := 18) (by with_reducible rfl) (by omega) dX6_isAhead_15 rfl (by decide) (fun c15 => ?_) (fun c15 => ?_) | refine j_if_ne (tgt := 36) (pc' := 18) dX6_isAhead_15 rfl (by decide) (fun c15 => ?_) (fun c15 => ?_)
  ·
    have e1 : sA2 v i j = sA1 v i j := if_neg c15
    rw [show sA1 v i j = v (176 + 56 * i + 5) - v (176 + 56 * j + 5) from rfl] at e1
    refine j_iload_n (pc' := 37) dX6_isAhead_36 rfl rfl ?_
    refine j_istore_n (pc' := 38) (lv' := [_, _, _, _]) dX6_isAhead_37 rfl (by decide) rfl ?_
    refine j_iload_n (pc' := 39) dX6_isAhead_38 rfl rfl ?_
    first | refine j_if_neB' (tgt := 60) (pc' := 42) (by with_reducible rfl) dX6_isAhead_39 rfl (by decide) (fun c39 => ?_) (fun c39 => ?_) | refine j_if_neN' (tgt := 60) (pc' := 42) (by with_reducible rfl) (by omega) dX6_isAhead_39 rfl (by decide) (fun c39 => ?_) (fun c39 => ?_) | refine j_if_ne (tgt := 60) (pc' := 42) dX6_isAhead_39 rfl (by decide) (fun c39 => ?_) (fun c39 => ?_)
    ·
      rw [← e1] at c39
      have e2 : sA3 v i j = sA2 v i j := if_neg c39
      rw [e1] at e2
      refine j_iload_n (pc' := 61) dX6_isAhead_60 rfl rfl ?_
      refine j_istore_n (pc' := 62) (lv' := [_, _, _, _]) dX6_isAhead_61 rfl (by decide) rfl ?_
      refine j_iload_n (pc' := 63) dX6_isAhead_62 rfl rfl ?_
      first | refine j_if_neB' (tgt := 79) (pc' := 66) (by with_reducible rfl) dX6_isAhead_63 rfl (by decide) (fun c63 => ?_) (fun c63 => ?_) | refine j_if_neN' (tgt := 79) (pc' := 66) (by with_reducible rfl) (by omega) dX6_isAhead_63 rfl (by decide) (fun c63 => ?_) (fun c63 => ?_) | refine j_if_ne (tgt := 79) (pc' := 66) dX6_isAhead_63 rfl (by decide) (fun c63 => ?_) (fun c63 => ?_)
      ·
        rw [← e2] at c63
        rw [← e2]
        refine j_iload_n (pc' := 80) dX6_isAhead_79 rfl rfl ?_
        first | refine j_if_geN' (tgt := 87) (pc' := 83) (by with_reducible rfl) (by omega) dX6_isAhead_80 rfl (by decide) (fun c80 => ?_) (fun c80 => ?_) | refine j_if_ge (tgt := 87) (pc' := 83) dX6_isAhead_80 rfl (by decide) (fun c80 => ?_) (fun c80 => ?_)
        ·
          refine j_iconst (pc' := 88) (v := nI 0) dX6_isAhead_87 rfl rfl ?_
          refine j_reti dX6_isAhead_88 rfl (by first | rfl | exact bi_n _) ?_
          refine ⟨?_, rfl⟩
          unfold sAhead
          rw [if_neg c63]
          first | exact bi_F (decide_eq_false (Int32.not_lt.mpr c80)) | exact bi_T (decide_eq_true (Int32.not_le.mp c80))
        ·
          refine j_iconst (pc' := 84) (v := nI 1) dX6_isAhead_83 rfl rfl ?_
          refine j_goto (tgt := 88) dX6_isAhead_84 (by decide) ?_
          refine j_reti dX6_isAhead_88 rfl (by first | rfl | exact bi_n _) ?_
          refine ⟨?_, rfl⟩
          unfold sAhead
          rw [if_neg c63]
          first | exact bi_F (decide_eq_false (Int32.not_lt.mpr c80)) | exact bi_T (decide_eq_true (Int32.not_le.mp c80))
      ·
        rw [← e2] at c63
        refine j_iload_n (pc' := 67) dX6_isAhead_66 rfl rfl ?_
        refine j_iload_n (pc' := 68) dX6_isAhead_67 rfl rfl ?_
        first | refine j_icmp_geN' (tgt := 75) (pc' := 71) (by with_reducible rfl) (by with_reducible rfl) (by omega) (by omega) dX6_isAhead_68 rfl (by decide) (fun c68 => ?_) (fun c68 => ?_) | refine j_icmp_ge (tgt := 75) (pc' := 71) dX6_isAhead_68 rfl (by decide) (fun c68 => ?_) (fun c68 => ?_)
        ·
          refine j_iconst (pc' := 76) (v := nI 0) dX6_isAhead_75 rfl rfl ?_
          refine j_goto (tgt := 88) dX6_isAhead_76 (by decide) ?_
          refine j_reti dX6_isAhead_88 rfl (by first | rfl | exact bi_n _) ?_
          refine ⟨?_, rfl⟩
          unfold sAhead
          rw [if_pos c63]
          first | exact bi_T (decide_eq_true (by omega)) | exact bi_F (decide_eq_false (by omega))
        ·
          refine j_iconst (pc' := 72) (v := nI 1) dX6_isAhead_71 rfl rfl ?_
          refine j_goto (tgt := 88) dX6_isAhead_72 (by decide) ?_
          refine j_reti dX6_isAhead_88 rfl (by first | rfl | exact bi_n _) ?_
          refine ⟨?_, rfl⟩
          unfold sAhead
          rw [if_pos c63]
          first | exact bi_T (decide_eq_true (by omega)) | exact bi_F (decide_eq_false (by omega))
    ·
      rw [← e1] at c39
      have e2 : sA3 v i j = v (176 + 56 * i + 12) - v (176 + 56 * j + 12) := if_pos c39
      refine j_aload_n (pc' := 43) dX6_isAhead_42 rfl rfl ?_
      refine j_iload_n (pc' := 44) dX6_isAhead_43 rfl rfl ?_
      refine j_bipush (pc' := 46) (v := nI 12) dX6_isAhead_44 rfl rfl ?_
      refine j_cVi (pc' := 49) m_X6_59 (c_X6_of hs (by omega) (by omega)) (by assumption) (by decide) rfl rfl rfl ⟨Nat.le_of_ble_eq_true rfl, Nat.le_of_ble_eq_true rfl⟩ ⟨Nat.zero_le _, Nat.zero_le _⟩ (Nat.le_of_ble_eq_true rfl) dX6_isAhead_46 rfl (fun x1 I1 hq => ?_)
      obtain ⟨rfl, rfl⟩ := hq
      refine j_aload_n (pc' := 50) dX6_isAhead_49 rfl rfl ?_
      refine j_iload_n (pc' := 51) dX6_isAhead_50 rfl rfl ?_
      refine j_bipush (pc' := 53) (v := nI 12) dX6_isAhead_51 rfl rfl ?_
      refine j_cVi (pc' := 56) m_X6_59 (c_X6_of hs (by omega) (by omega)) (by assumption) (by decide) rfl rfl rfl ⟨Nat.le_of_ble_eq_true rfl, Nat.le_of_ble_eq_true rfl⟩ ⟨Nat.zero_le _, Nat.zero_le _⟩ (Nat.le_of_ble_eq_true rfl) dX6_isAhead_53 rfl (fun x1 I1 hq => ?_)
      obtain ⟨rfl, rfl⟩ := hq
      refine j_isub (pc' := 57) dX6_isAhead_56 rfl ?_
      refine j_goto (tgt := 61) dX6_isAhead_57 (by decide) ?_
      refine j_istore_n (pc' := 62) (lv' := [_, _, _, _]) dX6_isAhead_61 rfl (by decide) rfl ?_
      refine j_iload_n (pc' := 63) dX6_isAhead_62 rfl rfl ?_
      first | refine j_if_neB' (tgt := 79) (pc' := 66) (by with_reducible rfl) dX6_isAhead_63 rfl (by decide) (fun c63 => ?_) (fun c63 => ?_) | refine j_if_neN' (tgt := 79) (pc' := 66) (by with_reducible rfl) (by omega) dX6_isAhead_63 rfl (by decide) (fun c63 => ?_) (fun c63 => ?_) | refine j_if_ne (tgt := 79) (pc' := 66) dX6_isAhead_63 rfl (by decide) (fun c63 => ?_) (fun c63 => ?_)
      ·
        rw [← e2] at c63
        rw [← e2]
        refine j_iload_n (pc' := 80) dX6_isAhead_79 rfl rfl ?_
        first | refine j_if_geN' (tgt := 87) (pc' := 83) (by with_reducible rfl) (by omega) dX6_isAhead_80 rfl (by decide) (fun c80 => ?_) (fun c80 => ?_) | refine j_if_ge (tgt := 87) (pc' := 83) dX6_isAhead_80 rfl (by decide) (fun c80 => ?_) (fun c80 => ?_)
        ·
          refine j_iconst (pc' := 88) (v := nI 0) dX6_isAhead_87 rfl rfl ?_
          refine j_reti dX6_isAhead_88 rfl (by first | rfl | exact bi_n _) ?_
          refine ⟨?_, rfl⟩
          unfold sAhead
          rw [if_neg c63]
          first | exact bi_F (decide_eq_false (Int32.not_lt.mpr c80)) | exact bi_T (decide_eq_true (Int32.not_le.mp c80))
        ·
          refine j_iconst (pc' := 84) (v := nI 1) dX6_isAhead_83 rfl rfl ?_
          refine j_goto (tgt := 88) dX6_isAhead_84 (by decide) ?_
          refine j_reti dX6_isAhead_88 rfl (by first | rfl | exact bi_n _) ?_
          refine ⟨?_, rfl⟩
          unfold sAhead
          rw [if_neg c63]
          first | exact bi_F (decide_eq_false (Int32.not_lt.mpr c80)) | exact bi_T (decide_eq_true (Int32.not_le.mp c80))
      ·
        rw [← e2] at c63
        refine j_iload_n (pc' := 67) dX6_isAhead_66 rfl rfl ?_
        refine j_iload_n (pc' := 68) dX6_isAhead_67 rfl rfl ?_
        first | refine j_icmp_geN' (tgt := 75) (pc' := 71) (by with_reducible rfl) (by with_reducible rfl) (by omega) (by omega) dX6_isAhead_68 rfl (by decide) (fun c68 => ?_) (fun c68 => ?_) | refine j_icmp_ge (tgt := 75) (pc' := 71) dX6_isAhead_68 rfl (by decide) (fun c68 => ?_) (fun c68 => ?_)
        ·
          refine j_iconst (pc' := 76) (v := nI 0) dX6_isAhead_75 rfl rfl ?_
          refine j_goto (tgt := 88) dX6_isAhead_76 (by decide) ?_
          refine j_reti dX6_isAhead_88 rfl (by first | rfl | exact bi_n _) ?_
          refine ⟨?_, rfl⟩
          unfold sAhead
          rw [if_pos c63]
          first | exact bi_T (decide_eq_true (by omega)) | exact bi_F (decide_eq_false (by omega))
        ·
          refine j_iconst (pc' := 72) (v := nI 1) dX6_isAhead_71 rfl rfl ?_
          refine j_goto (tgt := 88) dX6_isAhead_72 (by decide) ?_
          refine j_reti dX6_isAhead_88 rfl (by first | rfl | exact bi_n _) ?_
          refine ⟨?_, rfl⟩
          unfold sAhead
          rw [if_pos c63]
          first | exact bi_T (decide_eq_true (by omega)) | exact bi_F (decide_eq_false (by omega))
  ·
    have e1 : sA2 v i j = v (176 + 56 * i + 10) - v (176 + 56 * j + 10) := if_pos c15
    refine j_aload_n (pc' := 19) dX6_isAhead_18 rfl rfl ?_
    refine j_iload_n (pc' := 20) dX6_isAhead_19 rfl rfl ?_
    refine j_bipush (pc' := 22) (v := nI 10) dX6_isAhead_20 rfl rfl ?_
    refine j_cVi (pc' := 25) m_X6_59 (c_X6_of hs (by omega) (by omega)) (by assumption) (by decide) rfl rfl rfl ⟨Nat.le_of_ble_eq_true rfl, Nat.le_of_ble_eq_true rfl⟩ ⟨Nat.zero_le _, Nat.zero_le _⟩ (Nat.le_of_ble_eq_true rfl) dX6_isAhead_22 rfl (fun x1 I1 hq => ?_)
    obtain ⟨rfl, rfl⟩ := hq
    refine j_aload_n (pc' := 26) dX6_isAhead_25 rfl rfl ?_
    refine j_iload_n (pc' := 27) dX6_isAhead_26 rfl rfl ?_
    refine j_bipush (pc' := 29) (v := nI 10) dX6_isAhead_27 rfl rfl ?_
    refine j_cVi (pc' := 32) m_X6_59 (c_X6_of hs (by omega) (by omega)) (by assumption) (by decide) rfl rfl rfl ⟨Nat.le_of_ble_eq_true rfl, Nat.le_of_ble_eq_true rfl⟩ ⟨Nat.zero_le _, Nat.zero_le _⟩ (Nat.le_of_ble_eq_true rfl) dX6_isAhead_29 rfl (fun x1 I1 hq => ?_)
    obtain ⟨rfl, rfl⟩ := hq
    refine j_isub (pc' := 33) dX6_isAhead_32 rfl ?_
    refine j_goto (tgt := 37) dX6_isAhead_33 (by decide) ?_
    refine j_istore_n (pc' := 38) (lv' := [_, _, _, _]) dX6_isAhead_37 rfl (by decide) rfl ?_
    refine j_iload_n (pc' := 39) dX6_isAhead_38 rfl rfl ?_
    first | refine j_if_neB' (tgt := 60) (pc' := 42) (by with_reducible rfl) dX6_isAhead_39 rfl (by decide) (fun c39 => ?_) (fun c39 => ?_) | refine j_if_neN' (tgt := 60) (pc' := 42) (by with_reducible rfl) (by omega) dX6_isAhead_39 rfl (by decide) (fun c39 => ?_) (fun c39 => ?_) | refine j_if_ne (tgt := 60) (pc' := 42) dX6_isAhead_39 rfl (by decide) (fun c39 => ?_) (fun c39 => ?_)
    ·
      rw [← e1] at c39
      have e2 : sA3 v i j = sA2 v i j := if_neg c39
      rw [e1] at e2
      refine j_iload_n (pc' := 61) dX6_isAhead_60 rfl rfl ?_
      refine j_istore_n (pc' := 62) (lv' := [_, _, _, _]) dX6_isAhead_61 rfl (by decide) rfl ?_
      refine j_iload_n (pc' := 63) dX6_isAhead_62 rfl rfl ?_
      first | refine j_if_neB' (tgt := 79) (pc' := 66) (by with_reducible rfl) dX6_isAhead_63 rfl (by decide) (fun c63 => ?_) (fun c63 => ?_) | refine j_if_neN' (tgt := 79) (pc' := 66) (by with_reducible rfl) (by omega) dX6_isAhead_63 rfl (by decide) (fun c63 => ?_) (fun c63 => ?_) | refine j_if_ne (tgt := 79) (pc' := 66) dX6_isAhead_63 rfl (by decide) (fun c63 => ?_) (fun c63 => ?_)
      ·
        rw [← e2] at c63
        rw [← e2]
        refine j_iload_n (pc' := 80) dX6_isAhead_79 rfl rfl ?_
        first | refine j_if_geN' (tgt := 87) (pc' := 83) (by with_reducible rfl) (by omega) dX6_isAhead_80 rfl (by decide) (fun c80 => ?_) (fun c80 => ?_) | refine j_if_ge (tgt := 87) (pc' := 83) dX6_isAhead_80 rfl (by decide) (fun c80 => ?_) (fun c80 => ?_)
        ·
          refine j_iconst (pc' := 88) (v := nI 0) dX6_isAhead_87 rfl rfl ?_
          refine j_reti dX6_isAhead_88 rfl (by first | rfl | exact bi_n _) ?_
          refine ⟨?_, rfl⟩
          unfold sAhead
          rw [if_neg c63]
          first | exact bi_F (decide_eq_false (Int32.not_lt.mpr c80)) | exact bi_T (decide_eq_true (Int32.not_le.mp c80))
        ·
          refine j_iconst (pc' := 84) (v := nI 1) dX6_isAhead_83 rfl rfl ?_
          refine j_goto (tgt := 88) dX6_isAhead_84 (by decide) ?_
          refine j_reti dX6_isAhead_88 rfl (by first | rfl | exact bi_n _) ?_
          refine ⟨?_, rfl⟩
          unfold sAhead
          rw [if_neg c63]
          first | exact bi_F (decide_eq_false (Int32.not_lt.mpr c80)) | exact bi_T (decide_eq_true (Int32.not_le.mp c80))
      ·
        rw [← e2] at c63
        refine j_iload_n (pc' := 67) dX6_isAhead_66 rfl rfl ?_
        refine j_iload_n (pc' := 68) dX6_isAhead_67 rfl rfl ?_
        first | refine j_icmp_geN' (tgt := 75) (pc' := 71) (by with_reducible rfl) (by with_reducible rfl) (by omega) (by omega) dX6_isAhead_68 rfl (by decide) (fun c68 => ?_) (fun c68 => ?_) | refine j_icmp_ge (tgt := 75) (pc' := 71) dX6_isAhead_68 rfl (by decide) (fun c68 => ?_) (fun c68 => ?_)
        ·
          refine j_iconst (pc' := 76) (v := nI 0) dX6_isAhead_75 rfl rfl ?_
          refine j_goto (tgt := 88) dX6_isAhead_76 (by decide) ?_
          refine j_reti dX6_isAhead_88 rfl (by first | rfl | exact bi_n _) ?_
          refine ⟨?_, rfl⟩
          unfold sAhead
          rw [if_pos c63]
          first | exact bi_T (decide_eq_true (by omega)) | exact bi_F (decide_eq_false (by omega))
        ·
          refine j_iconst (pc' := 72) (v := nI 1) dX6_isAhead_71 rfl rfl ?_
          refine j_goto (tgt := 88) dX6_isAhead_72 (by decide) ?_
          refine j_reti dX6_isAhead_88 rfl (by first | rfl | exact bi_n _) ?_
          refine ⟨?_, rfl⟩
          unfold sAhead
          rw [if_pos c63]
          first | exact bi_T (decide_eq_true (by omega)) | exact bi_F (decide_eq_false (by omega))
    ·
      rw [← e1] at c39
      have e2 : sA3 v i j = v (176 + 56 * i + 12) - v (176 + 56 * j + 12) := if_pos c39
      refine j_aload_n (pc' := 43) dX6_isAhead_42 rfl rfl ?_
      refine j_iload_n (pc' := 44) dX6_isAhead_43 rfl rfl ?_
      refine j_bipush (pc' := 46) (v := nI 12) dX6_isAhead_44 rfl rfl ?_
      refine j_cVi (pc' := 49) m_X6_59 (c_X6_of hs (by omega) (by omega)) (by assumption) (by decide) rfl rfl rfl ⟨Nat.le_of_ble_eq_true rfl, Nat.le_of_ble_eq_true rfl⟩ ⟨Nat.zero_le _, Nat.zero_le _⟩ (Nat.le_of_ble_eq_true rfl) dX6_isAhead_46 rfl (fun x1 I1 hq => ?_)
      obtain ⟨rfl, rfl⟩ := hq
      refine j_aload_n (pc' := 50) dX6_isAhead_49 rfl rfl ?_
      refine j_iload_n (pc' := 51) dX6_isAhead_50 rfl rfl ?_
      refine j_bipush (pc' := 53) (v := nI 12) dX6_isAhead_51 rfl rfl ?_
      refine j_cVi (pc' := 56) m_X6_59 (c_X6_of hs (by omega) (by omega)) (by assumption) (by decide) rfl rfl rfl ⟨Nat.le_of_ble_eq_true rfl, Nat.le_of_ble_eq_true rfl⟩ ⟨Nat.zero_le _, Nat.zero_le _⟩ (Nat.le_of_ble_eq_true rfl) dX6_isAhead_53 rfl (fun x1 I1 hq => ?_)
      obtain ⟨rfl, rfl⟩ := hq
      refine j_isub (pc' := 57) dX6_isAhead_56 rfl ?_
      refine j_goto (tgt := 61) dX6_isAhead_57 (by decide) ?_
      refine j_istore_n (pc' := 62) (lv' := [_, _, _, _]) dX6_isAhead_61 rfl (by decide) rfl ?_
      refine j_iload_n (pc' := 63) dX6_isAhead_62 rfl rfl ?_
      first | refine j_if_neB' (tgt := 79) (pc' := 66) (by with_reducible rfl) dX6_isAhead_63 rfl (by decide) (fun c63 => ?_) (fun c63 => ?_) | refine j_if_neN' (tgt := 79) (pc' := 66) (by with_reducible rfl) (by omega) dX6_isAhead_63 rfl (by decide) (fun c63 => ?_) (fun c63 => ?_) | refine j_if_ne (tgt := 79) (pc' := 66) dX6_isAhead_63 rfl (by decide) (fun c63 => ?_) (fun c63 => ?_)
      ·
        rw [← e2] at c63
        rw [← e2]
        refine j_iload_n (pc' := 80) dX6_isAhead_79 rfl rfl ?_
        first | refine j_if_geN' (tgt := 87) (pc' := 83) (by with_reducible rfl) (by omega) dX6_isAhead_80 rfl (by decide) (fun c80 => ?_) (fun c80 => ?_) | refine j_if_ge (tgt := 87) (pc' := 83) dX6_isAhead_80 rfl (by decide) (fun c80 => ?_) (fun c80 => ?_)
        ·
          refine j_iconst (pc' := 88) (v := nI 0) dX6_isAhead_87 rfl rfl ?_
          refine j_reti dX6_isAhead_88 rfl (by first | rfl | exact bi_n _) ?_
          refine ⟨?_, rfl⟩
          unfold sAhead
          rw [if_neg c63]
          first | exact bi_F (decide_eq_false (Int32.not_lt.mpr c80)) | exact bi_T (decide_eq_true (Int32.not_le.mp c80))
        ·
          refine j_iconst (pc' := 84) (v := nI 1) dX6_isAhead_83 rfl rfl ?_
          refine j_goto (tgt := 88) dX6_isAhead_84 (by decide) ?_
          refine j_reti dX6_isAhead_88 rfl (by first | rfl | exact bi_n _) ?_
          refine ⟨?_, rfl⟩
          unfold sAhead
          rw [if_neg c63]
          first | exact bi_F (decide_eq_false (Int32.not_lt.mpr c80)) | exact bi_T (decide_eq_true (Int32.not_le.mp c80))
      ·
        rw [← e2] at c63
        refine j_iload_n (pc' := 67) dX6_isAhead_66 rfl rfl ?_
        refine j_iload_n (pc' := 68) dX6_isAhead_67 rfl rfl ?_
        first | refine j_icmp_geN' (tgt := 75) (pc' := 71) (by with_reducible rfl) (by with_reducible rfl) (by omega) (by omega) dX6_isAhead_68 rfl (by decide) (fun c68 => ?_) (fun c68 => ?_) | refine j_icmp_ge (tgt := 75) (pc' := 71) dX6_isAhead_68 rfl (by decide) (fun c68 => ?_) (fun c68 => ?_)
        ·
          refine j_iconst (pc' := 76) (v := nI 0) dX6_isAhead_75 rfl rfl ?_
          refine j_goto (tgt := 88) dX6_isAhead_76 (by decide) ?_
          refine j_reti dX6_isAhead_88 rfl (by first | rfl | exact bi_n _) ?_
          refine ⟨?_, rfl⟩
          unfold sAhead
          rw [if_pos c63]
          first | exact bi_T (decide_eq_true (by omega)) | exact bi_F (decide_eq_false (by omega))
        ·
          refine j_iconst (pc' := 72) (v := nI 1) dX6_isAhead_71 rfl rfl ?_
          refine j_goto (tgt := 88) dX6_isAhead_72 (by decide) ?_
          refine j_reti dX6_isAhead_88 rfl (by first | rfl | exact bi_n _) ?_
          refine ⟨?_, rfl⟩
          unfold sAhead
          rw [if_pos c63]
          first | exact bi_T (decide_eq_true (by omega)) | exact bi_F (decide_eq_false (by omega))

def insO (v : Nat → Int32) (i : Nat) : Nat → (Nat → Int32) → (Nat → Int32)
  | 0, o => upd o 0 (nI i)
  | w + 1, o => if sAhead v i (o w).toNatClampNeg = true then insO v i w (upd o (w + 1) (o w)) else upd o (w + 1) (nI i)
def okO (o : Nat → Int32) (L k : Nat) : Prop := ∀ j, j < L → ∃ q, q < k ∧ o j = nI q
theorem insO_ok {v : Nat → Int32} {i k L : Nat} (hik : i < k) : ∀ (w : Nat) (o : Nat → Int32), (∀ j, j < L → j ≠ w → ∃ q, q < k ∧ o j = nI q) → okO (insO v i w o) L k := by
  intro w
  induction w with
  | zero =>
    intro o h j hj
    by_cases hz : j = 0
    · exact ⟨i, hik, by rw [hz]; exact pk_us⟩
    · obtain ⟨q, h1, h2⟩ := h j hj hz
      exact ⟨q, h1, by rw [insO, pk_un hz]; exact h2⟩
  | succ w ih =>
    intro o h j hj
    rw [insO]
    by_cases hc : sAhead v i (o w).toNatClampNeg = true
    · rw [if_pos hc]
      refine ih _ (fun j2 h2 h3 => ?_) j hj
      by_cases hz : j2 = w + 1
      · obtain ⟨q, h4, h5⟩ := h w (by omega) (by omega)
        exact ⟨q, h4, by rw [hz, pk_us]; exact h5⟩
      · obtain ⟨q, h4, h5⟩ := h j2 h2 hz
        exact ⟨q, h4, by rw [pk_un hz]; exact h5⟩
    · rw [if_neg hc]
      by_cases hz : j = w + 1
      · exact ⟨i, hik, by rw [hz]; exact pk_us⟩
      · obtain ⟨q, h1, h2⟩ := h j hj hz
        exact ⟨q, h1, by rw [pk_un hz]; exact h2⟩
def lsF (v o : Nat → Int32) : Nat → (Nat → Int32) × Nat
  | 0 => (o, 0)
  | i + 1 => if sWhy v i = 0 then (insO v i (lsF v o i).2 (lsF v o i).1, (lsF v o i).2 + 1) else lsF v o i
theorem lsF_ok {v o : Nat → Int32} : ∀ i, (lsF v o i).2 ≤ i ∧ okO (lsF v o i).1 (lsF v o i).2 i := by
  intro i
  induction i with
  | zero => exact ⟨Nat.le_refl _, fun j hj => absurd hj (Nat.not_lt_zero _)⟩
  | succ i ih =>
    rw [lsF]
    by_cases h : sWhy v i = 0
    · rw [if_pos h]
      refine ⟨by have := ih.1; simp only; omega, insO_ok (Nat.lt_succ_self i) _ _ (fun j hj hn => ?_)⟩
      obtain ⟨q, h1, h2⟩ := ih.2 j (by simp only at hj; omega)
      exact ⟨q, by omega, h2⟩
    · rw [if_neg h]
      exact ⟨by have := ih.1; omega, fun j hj => by
        obtain ⟨q, h1, h2⟩ := ih.2 j hj
        exact ⟨q, by omega, h2⟩⟩

set_option maxRecDepth 100000 in
set_option maxHeartbeats 4000000 in
theorem lp2_X6_lists {E : jx_E} {l : Launch} {n : Nat} {kd : jx_K} {R : jx_R} {I0 : jx_I} {m : Nat} {F v a p o t c : Nat → Int32} {Q : jx_Q} {i : Nat} (hs : sMd kd R m) (hi : i < 16) : ∀ (w : Nat) (o : Nat → Int32), (∀ j, j < w → ∃ q, q < 16 ∧ o j = nI q) → w ≤ 15 → (∀ z, jx_J E l cX6_lists 3 none RX6 false (jx_rm 3) 0 0 (Q) 0 0 n kd R (mI I0 m F v a p (insO v i w o) t c) 77 [some (.ref m), some (.int (nI i)), some (.int (nI z))] []) → jx_J E l cX6_lists 3 none RX6 false (jx_rm 3) 0 0 (Q) 0 0 n kd R (mI I0 m F v a p o t c) 30 [some (.ref m), some (.int (nI i)), some (.int (nI w))] [] := by
  obtain ⟨K0, K1, K2, K3, K4, K5, K6, R0, R1, R2, R4, R6, R10⟩ := id hs
  intro w
  induction w with
  | zero =>
    intro o ho hw hx
    rw [insO] at hx
    refine j_iload_n (pc' := 31) dX6_lists_30 rfl rfl ?_
    first | refine j_if_leN' (tgt := 70) (pc' := 34) (by with_reducible rfl) (by omega) dX6_lists_31 rfl (by decide) (fun c31 => ?_) (fun c31 => ?_) | refine j_if_le (tgt := 70) (pc' := 34) dX6_lists_31 rfl (by decide) (fun c31 => ?_) (fun c31 => ?_)
    ·
      refine j_aload_n (pc' := 71) dX6_lists_70 rfl rfl ?_
      refine j_getR (pc' := 74) f_X6_19 (by assumption) (by assumption) dX6_lists_71 rfl ?_
      refine j_iload_n (pc' := 75) dX6_lists_74 rfl rfl ?_
      refine j_iload_n (pc' := 76) dX6_lists_75 rfl rfl ?_
      refine j_iast (pc' := 77) (by assumption) rfl (by omega) (by omega) dX6_lists_76 rfl ?_
      first | refine j_eqI mW_1 ?_ | refine j_eqI mW_2 ?_ | refine j_eqI mW_3 ?_ | refine j_eqI mW_4 ?_ | refine j_eqI mW_5 ?_ | refine j_eqI mW_6 ?_
      exact hx 0
    ·
      exact absurd c31 (by omega)
  | succ w ih =>
    intro o ho hw hx
    obtain ⟨qq, hqq, how⟩ := ho w (by omega)
    have hup : ∀ j, j < w → ∃ q, q < 16 ∧ upd o (w + 1) (nI qq) j = nI q := fun j hj => by
      obtain ⟨q, h1, h2⟩ := ho j (by omega)
      exact ⟨q, h1, by rw [pk_un (by omega)]; exact h2⟩
    refine j_iload_n (pc' := 31) dX6_lists_30 rfl rfl ?_
    first | refine j_if_leN' (tgt := 70) (pc' := 34) (by with_reducible rfl) (by omega) dX6_lists_31 rfl (by decide) (fun c31 => ?_) (fun c31 => ?_) | refine j_if_le (tgt := 70) (pc' := 34) dX6_lists_31 rfl (by decide) (fun c31 => ?_) (fun c31 => ?_)
    ·
      exact absurd c31 (by omega)
    ·
      refine j_aload_n (pc' := 35) dX6_lists_34 rfl rfl ?_
      refine j_iload_n (pc' := 36) dX6_lists_35 rfl rfl ?_
      refine j_aload_n (pc' := 37) dX6_lists_36 rfl rfl ?_
      refine j_getR (pc' := 40) f_X6_19 (by assumption) (by assumption) dX6_lists_37 rfl ?_
      refine j_iload_n (pc' := 41) dX6_lists_40 rfl rfl ?_
      refine j_iconst (pc' := 42) (v := nI 1) dX6_lists_41 rfl rfl ?_
      first | refine j_isubN' (pc' := 43) (by with_reducible rfl) (by with_reducible rfl) (by omega) dX6_lists_42 rfl ?_ | refine j_isub (pc' := 43) dX6_lists_42 rfl ?_
      refine j_ialdv (pc' := 44) (by assumption) rfl (by omega) (by omega) (by first | (simp (disch := omega) only [jx_upS, jx_upK, jx_upA, mI_0, mI_1, mI_2, mI_3, mI_4, mI_5, mI_6, pk_us, pk_un, how, Nat.add_sub_cancel]; rfl) | rfl) dX6_lists_43 rfl ?_
      refine j_cVi (pc' := 47) m_X6_119 (c_X6_isAhead hs (by omega) (by omega)) (by assumption) (by decide) rfl rfl rfl ⟨Nat.le_of_ble_eq_true rfl, Nat.le_of_ble_eq_true rfl⟩ ⟨Nat.zero_le _, Nat.zero_le _⟩ (Nat.le_of_ble_eq_true rfl) dX6_lists_44 rfl (fun x1 I1 hq => ?_)
      obtain ⟨rfl, rfl⟩ := hq
      first | refine j_if_eqB' (tgt := 70) (pc' := 50) (by with_reducible rfl) dX6_lists_47 rfl (by decide) (fun c47 => ?_) (fun c47 => ?_) | refine j_if_eqN' (tgt := 70) (pc' := 50) (by with_reducible rfl) (by omega) dX6_lists_47 rfl (by decide) (fun c47 => ?_) (fun c47 => ?_) | refine j_if_eq (tgt := 70) (pc' := 50) dX6_lists_47 rfl (by decide) (fun c47 => ?_) (fun c47 => ?_)
      ·
        refine j_aload_n (pc' := 71) dX6_lists_70 rfl rfl ?_
        refine j_getR (pc' := 74) f_X6_19 (by assumption) (by assumption) dX6_lists_71 rfl ?_
        refine j_iload_n (pc' := 75) dX6_lists_74 rfl rfl ?_
        refine j_iload_n (pc' := 76) dX6_lists_75 rfl rfl ?_
        refine j_iast (pc' := 77) (by assumption) rfl (by omega) (by omega) dX6_lists_76 rfl ?_
        first | refine j_eqI mW_1 ?_ | refine j_eqI mW_2 ?_ | refine j_eqI mW_3 ?_ | refine j_eqI mW_4 ?_ | refine j_eqI mW_5 ?_ | refine j_eqI mW_6 ?_
        have hx1 := hx (w + 1)
        rw [insO, if_neg (by rw [how, nI_clamp (by omega), c47]; decide)] at hx1
        exact hx1
      ·
        refine j_aload_n (pc' := 51) dX6_lists_50 rfl rfl ?_
        refine j_getR (pc' := 54) f_X6_19 (by assumption) (by assumption) dX6_lists_51 rfl ?_
        refine j_iload_n (pc' := 55) dX6_lists_54 rfl rfl ?_
        refine j_aload_n (pc' := 56) dX6_lists_55 rfl rfl ?_
        refine j_getR (pc' := 59) f_X6_19 (by assumption) (by assumption) dX6_lists_56 rfl ?_
        refine j_iload_n (pc' := 60) dX6_lists_59 rfl rfl ?_
        refine j_iconst (pc' := 61) (v := nI 1) dX6_lists_60 rfl rfl ?_
        first | refine j_isubN' (pc' := 62) (by with_reducible rfl) (by with_reducible rfl) (by omega) dX6_lists_61 rfl ?_ | refine j_isub (pc' := 62) dX6_lists_61 rfl ?_
        refine j_ialdv (pc' := 63) (by assumption) rfl (by omega) (by omega) (by first | (simp (disch := omega) only [jx_upS, jx_upK, jx_upA, mI_0, mI_1, mI_2, mI_3, mI_4, mI_5, mI_6, pk_us, pk_un, how, Nat.add_sub_cancel]; rfl) | rfl) dX6_lists_62 rfl ?_
        refine j_iast (pc' := 64) (by assumption) rfl (by omega) (by omega) dX6_lists_63 rfl ?_
        first | refine j_eqI mW_1 ?_ | refine j_eqI mW_2 ?_ | refine j_eqI mW_3 ?_ | refine j_eqI mW_4 ?_ | refine j_eqI mW_5 ?_ | refine j_eqI mW_6 ?_
        refine j_iincP (pc' := 67) (lv' := [_, _, _]) (by omega) dX6_lists_64 rfl rfl (by decide) rfl ?_
        refine j_goto (tgt := 30) dX6_lists_67 (by decide) ?_
        rw [insO, if_pos (by rw [how, nI_clamp (by omega)]; exact c47), how] at hx
        rw [show w + 1 - 1 = w from rfl]
        exact ih _ hup (by omega) hx
set_option maxRecDepth 100000 in
set_option maxHeartbeats 4000000 in
theorem lp_X6_lists {E : jx_E} {l : Launch} {n : Nat} {kd : jx_K} {R : jx_R} {I0 : jx_I} {m : Nat} {F v a p o t c : Nat → Int32} {k : Nat} {rk : Nat → Nat} (hs : sMd kd R m) (hk : v 0 = nI k) (h16 : k ≤ 16) (hrk : RK v k rk) : ∀ (z i : Nat), i ≤ k → z + i = k + 1 → ∀ u : Option Value, jx_J E l cX6_lists 3 none RX6 false (jx_rm 3) 0 0 (jx_Q0 n kd R (jx_Pv (fun I' => I' = mI I0 m (upd F 5 (nI (lsF v o k).2)) v a p ((lsF v o k).1) t c))) 0 0 n kd R (mI I0 m (upd F 5 (nI (lsF v o i).2)) v a p ((lsF v o i).1) t c) 7 [some (.ref m), some (.int (nI i)), u] [] := by
  obtain ⟨K0, K1, K2, K3, K4, K5, K6, R0, R1, R2, R4, R6, R10⟩ := id hs
  intro z
  induction z with
  | zero => intro i hi hz; omega
  | succ z ih =>
    intro i hi hz u
    refine j_iload_n (pc' := 8) dX6_lists_7 rfl rfl ?_
    refine j_aload_n (pc' := 9) dX6_lists_8 rfl rfl ?_
    refine j_getR (pc' := 12) f_X6_7 (by assumption) (by assumption) dX6_lists_9 rfl ?_
    refine j_iconst (pc' := 13) (v := nI 0) dX6_lists_12 rfl rfl ?_
    refine j_ialdv (pc' := 14) (by assumption) rfl (by omega) (by omega) (by first | (simp (disch := omega) only [jx_upS, jx_upK, jx_upA, mI_0, mI_1, mI_2, mI_3, mI_4, mI_5, mI_6, pk_us, pk_un, hk]; rfl) | rfl) dX6_lists_13 rfl ?_
    first | refine j_icmp_geN' (tgt := 93) (pc' := 17) (by with_reducible rfl) (by with_reducible rfl) (by omega) (by omega) dX6_lists_14 rfl (by decide) (fun c14 => ?_) (fun c14 => ?_) | refine j_icmp_ge (tgt := 93) (pc' := 17) dX6_lists_14 rfl (by decide) (fun c14 => ?_) (fun c14 => ?_)
    ·
      refine j_retv dX6_lists_93 rfl ?_
      have : i = k := by omega
      subst this
      rfl
    ·
      refine j_aload_n (pc' := 18) dX6_lists_17 rfl rfl ?_
      refine j_iload_n (pc' := 19) dX6_lists_18 rfl rfl ?_
      refine j_cVi (pc' := 22) m_X6_84 (c_X6_why hs h16 hrk (by omega)) (by assumption) (by decide) rfl rfl rfl ⟨Nat.le_of_ble_eq_true rfl, Nat.le_of_ble_eq_true rfl⟩ ⟨Nat.zero_le _, Nat.zero_le _⟩ (Nat.le_of_ble_eq_true rfl) dX6_lists_19 rfl (fun x1 I1 hq => ?_)
      obtain ⟨rfl, rfl⟩ := hq
      first | refine j_if_neB' (tgt := 87) (pc' := 25) (by with_reducible rfl) dX6_lists_22 rfl (by decide) (fun c22 => ?_) (fun c22 => ?_) | refine j_if_neN' (tgt := 87) (pc' := 25) (by with_reducible rfl) (by omega) dX6_lists_22 rfl (by decide) (fun c22 => ?_) (fun c22 => ?_) | refine j_if_ne (tgt := 87) (pc' := 25) dX6_lists_22 rfl (by decide) (fun c22 => ?_) (fun c22 => ?_)
      ·
        have e : lsF v o (i + 1) = lsF v o i := by rw [lsF, if_neg c22]
        first | refine j_iincN (pc' := 90) (lv' := [_, _, _]) dX6_lists_87 rfl rfl (by decide) rfl ?_ | refine j_iinc (pc' := 90) (lv' := [_, _, _]) dX6_lists_87 rfl rfl rfl (by decide) rfl ?_
        refine j_goto (tgt := 7) dX6_lists_90 (by decide) ?_
        have h := ih (i + 1) (by omega) (by omega) u
        rw [e] at h
        exact h
      ·
        have e : lsF v o (i + 1) = (insO v i (lsF v o i).2 (lsF v o i).1, (lsF v o i).2 + 1) := by rw [lsF, if_pos c22]
        have hls := lsF_ok (v := v) (o := o) i
        refine j_aload_n (pc' := 26) dX6_lists_25 rfl rfl ?_
        refine j_getIv (pc' := 29) f_X6_116 (by assumption) (by first | (simp (disch := omega) only [jx_upS, jx_upK, jx_upA, mI_0, mI_1, mI_2, mI_3, mI_4, mI_5, mI_6, pk_us, pk_un, hk]; rfl) | rfl) dX6_lists_26 rfl ?_
        refine j_istore_n (pc' := 30) (lv' := [_, _, _]) dX6_lists_29 rfl (by decide) rfl ?_
        refine lp2_X6_lists (o := o) hs (by omega) _ _ (fun j hj => by
          obtain ⟨q, h1, h2⟩ := hls.2 j hj
          exact ⟨q, by omega, h2⟩) (by omega) (fun z2 => ?_)
        refine j_aload_n (pc' := 78) dX6_lists_77 rfl rfl ?_
        refine j_dup (pc' := 79) dX6_lists_78 rfl rfl ?_
        refine j_getIv (pc' := 82) f_X6_116 (by assumption) (by first | (simp (disch := omega) only [jx_upS, jx_upK, jx_upA, mI_0, mI_1, mI_2, mI_3, mI_4, mI_5, mI_6, pk_us, pk_un, hk]; rfl) | rfl) dX6_lists_79 rfl ?_
        refine j_iconst (pc' := 83) (v := nI 1) dX6_lists_82 rfl rfl ?_
        first | refine j_iaddN' (pc' := 84) (by with_reducible rfl) (by with_reducible rfl) dX6_lists_83 rfl ?_ | refine j_iadd (pc' := 84) dX6_lists_83 rfl ?_
        refine j_putI (pc' := 87) f_X6_116 (by assumption) rfl rfl dX6_lists_84 rfl ?_
        refine j_eqI mW_0 ?_
        first | refine j_iincN (pc' := 90) (lv' := [_, _, _]) dX6_lists_87 rfl rfl (by decide) rfl ?_ | refine j_iinc (pc' := 90) (lv' := [_, _, _]) dX6_lists_87 rfl rfl rfl (by decide) rfl ?_
        refine j_goto (tgt := 7) dX6_lists_90 (by decide) ?_
        rw [upd_upd]
        have h := ih (i + 1) (by omega) (by omega) (some (.int (nI z2)))
        rw [e] at h
        exact h
set_option maxRecDepth 100000 in
set_option maxHeartbeats 4000000 in
theorem c_X6_lists {E : jx_E} {l : Launch} {n : Nat} {kd : jx_K} {R : jx_R} {I0 : jx_I} {m : Nat} {F v a p o t c : Nat → Int32} {k : Nat} {rk : Nat → Nat} (hs : sMd kd R m) (hk : v 0 = nI k) (h16 : k ≤ 16) (hrk : RK v k rk) : jx_Cv E l yX6_lists cX6_lists 3 none 3 n kd R (mI I0 m F v a p o t c) [.ref m] (fun I' => I' = mI I0 m (upd F 5 (nI (lsF v o k).2)) v a p ((lsF v o k).1) t c) := by
  obtain ⟨K0, K1, K2, K3, K4, K5, K6, R0, R1, R2, R4, R6, R10⟩ := id hs
  refine jx_C0.ofJ RX6 [some (.ref m), none, none] (by decide) rfl rfl (Nat.le_of_ble_eq_true rfl) rfl ?_
  refine j_aload_n (pc' := 1) dX6_lists_0 rfl rfl ?_
  refine j_iconst (pc' := 2) (v := nI 0) dX6_lists_1 rfl rfl ?_
  refine j_putI (pc' := 5) f_X6_116 (by assumption) rfl rfl dX6_lists_2 rfl ?_
  refine j_eqI mW_0 ?_
  refine j_iconst (pc' := 6) (v := nI 0) dX6_lists_5 rfl rfl ?_
  refine j_istore_n (pc' := 7) (lv' := [_, _, _]) dX6_lists_6 rfl (by decide) rfl ?_
  exact lp_X6_lists hs hk h16 hrk (k + 1) 0 (by omega) (by omega) none

def fList (v o : Nat → Int32) (k : Nat) (x : Int32) : Int32 := if 0 ≤ x then if x < nI (lsF v o k).2 then (lsF v o k).1 x.toNatClampNeg else -20009 else -20001

set_option maxRecDepth 100000 in
set_option maxHeartbeats 4000000 in
theorem c_X6_list {E : jx_E} {l : Launch} {n : Nat} {kd : jx_K} {R : jx_R} {I0 : jx_I} {m : Nat} {F v a p o t c : Nat → Int32} {k : Nat} {x : Int32} {rk : Nat → Nat} (hs : sMd kd R m) (hk : v 0 = nI k) (h16 : k ≤ 16) (hrk : RK v k rk) : jx_Ci E l yX6_list cX6_list 2 (some .int) 4 n kd R (mI I0 m F v a p o t c) [.ref m, .int x] (fun r I' => r = fList v o k x ∧ I' = if 0 ≤ x then mI I0 m (upd F 5 (nI (lsF v o k).2)) v a p ((lsF v o k).1) t c else mI I0 m F v a p o t c) := by
  obtain ⟨K0, K1, K2, K3, K4, K5, K6, R0, R1, R2, R4, R6, R10⟩ := id hs
  refine jx_C0.ofJ RX6 [some (.ref m), some (.int x)] (by decide) rfl rfl (Nat.le_of_ble_eq_true rfl) rfl ?_
  refine j_iload_n (pc' := 1) dX6_list_0 rfl rfl ?_
  first | refine j_if_geN' (tgt := 8) (pc' := 4) (by with_reducible rfl) (by omega) dX6_list_1 rfl (by decide) (fun c1 => ?_) (fun c1 => ?_) | refine j_if_ge (tgt := 8) (pc' := 4) dX6_list_1 rfl (by decide) (fun c1 => ?_) (fun c1 => ?_)
  ·
    have hx0 : 0 ≤ x := c1
    have hls := lsF_ok (v := v) (o := o) k
    obtain ⟨a2, ha2, hxa⟩ := nI_of (Int32.not_lt.mpr c1)
    subst hxa
    refine j_aload_n (pc' := 9) dX6_list_8 rfl rfl ?_
    refine j_cVv (pc' := 12) m_X6_122 (c_X6_lists hs hk h16 hrk) (by assumption) (by decide) rfl rfl rfl ⟨Nat.le_of_ble_eq_true rfl, Nat.le_of_ble_eq_true rfl⟩ ⟨Nat.zero_le _, Nat.zero_le _⟩ (Nat.le_of_ble_eq_true rfl) dX6_list_9 rfl (fun I1 hq => ?_)
    subst hq
    refine j_iload_n (pc' := 13) dX6_list_12 rfl rfl ?_
    refine j_aload_n (pc' := 14) dX6_list_13 rfl rfl ?_
    refine j_getIv (pc' := 17) f_X6_116 (by assumption) (by first | (simp (disch := omega) only [jx_upS, jx_upK, jx_upA, mI_0, mI_1, mI_2, mI_3, mI_4, mI_5, mI_6, pk_us, pk_un]; rfl) | rfl) dX6_list_14 rfl ?_
    first | refine j_icmp_geN' (tgt := 29) (pc' := 20) (by with_reducible rfl) (by with_reducible rfl) (by omega) (by omega) dX6_list_17 rfl (by decide) (fun c17 => ?_) (fun c17 => ?_) | refine j_icmp_ge (tgt := 29) (pc' := 20) dX6_list_17 rfl (by decide) (fun c17 => ?_) (fun c17 => ?_)
    ·
      refine j_sipush (pc' := 32) (v := -20009) dX6_list_29 rfl rfl ?_
      refine j_reti dX6_list_32 rfl (by first | rfl | exact bi_n _) ?_
      constructor
      · unfold fList
        rw [if_pos hx0, nI_clamp (by omega)]
        first | (rw [if_pos (nI_lt c17 (by omega))]; done) | (rw [if_neg (nI_nlt c17 (by omega))]; done)
      · first | rw [if_pos c1] | rw [if_neg c1]
    ·
      refine j_aload_n (pc' := 21) dX6_list_20 rfl rfl ?_
      refine j_getR (pc' := 24) f_X6_19 (by assumption) (by assumption) dX6_list_21 rfl ?_
      refine j_iload_n (pc' := 25) dX6_list_24 rfl rfl ?_
      refine j_ialdv (pc' := 26) (by assumption) rfl (by omega) (by omega) (by first | (simp (disch := omega) only [jx_upS, jx_upK, jx_upA, mI_0, mI_1, mI_2, mI_3, mI_4, mI_5, mI_6, pk_us, pk_un]; rfl) | rfl) dX6_list_25 rfl ?_
      refine j_goto (tgt := 32) dX6_list_26 (by decide) ?_
      refine j_reti dX6_list_32 rfl (by first | rfl | exact bi_n _) ?_
      constructor
      · unfold fList
        rw [if_pos hx0, nI_clamp (by omega)]
        first | (rw [if_pos (nI_lt c17 (by omega))]; done) | (rw [if_neg (nI_nlt c17 (by omega))]; done)
      · first | rw [if_pos c1] | rw [if_neg c1]
  ·
    refine j_sipush (pc' := 7) (v := -20001) dX6_list_4 rfl rfl ?_
    refine j_reti dX6_list_7 rfl (by first | rfl | exact bi_n _) ?_
    constructor
    · unfold fList
      rw [if_neg c1]
    · first | rw [if_pos c1] | rw [if_neg c1]

