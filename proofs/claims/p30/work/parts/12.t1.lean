set_option maxRecDepth 100000 in
set_option maxHeartbeats 4000000 in
theorem c_X5_isIn (E : jx_E) (l : Launch) (n : Nat) (kd : jx_K) (R : jx_R) (I : jx_I) (x a b : Int32)  : jx_Ci E l yX5_isIn cX5_isIn 3 (some .boolean) 0 n kd R I [.int x, .int a, .int b] (fun r I' => r = bi (decide (a ≤ x ∧ x ≤ b)) ∧ I' = I) := by
  refine jx_C0.ofJ RX5 [some (.int x), some (.int a), some (.int b)] (by decide) rfl rfl (Nat.le_of_ble_eq_true rfl) rfl ?_
  refine j_iload_n (pc' := 1) dX5_isIn_0 rfl rfl ?_
  refine j_iload_n (pc' := 2) dX5_isIn_1 rfl rfl ?_
  first | refine j_icmp_ltN' (tgt := 14) (pc' := 5) (by with_reducible rfl) (by with_reducible rfl) (by omega) (by omega) dX5_isIn_2 rfl (by decide) (fun c2 => ?_) (fun c2 => ?_) | refine j_icmp_lt (tgt := 14) (pc' := 5) dX5_isIn_2 rfl (by decide) (fun c2 => ?_) (fun c2 => ?_)
  ·
    refine j_iconst (pc' := 15) (v := nI 0) dX5_isIn_14 rfl rfl ?_
    refine j_reti dX5_isIn_15 rfl (by first | rfl | exact bi_n _) ?_
    refine ⟨?_, rfl⟩
    first | (refine bi_T (decide_eq_true ?_); simp only [Int32.le_iff_toInt_le, Int32.lt_iff_toInt_lt] at *; omega) | (refine bi_F (decide_eq_false ?_); simp only [Int32.le_iff_toInt_le, Int32.lt_iff_toInt_lt] at *; omega)
  ·
    refine j_iload_n (pc' := 6) dX5_isIn_5 rfl rfl ?_
    refine j_iload_n (pc' := 7) dX5_isIn_6 rfl rfl ?_
    first | refine j_icmp_gtN' (tgt := 14) (pc' := 10) (by with_reducible rfl) (by with_reducible rfl) (by omega) (by omega) dX5_isIn_7 rfl (by decide) (fun c7 => ?_) (fun c7 => ?_) | refine j_icmp_gt (tgt := 14) (pc' := 10) dX5_isIn_7 rfl (by decide) (fun c7 => ?_) (fun c7 => ?_)
    ·
      refine j_iconst (pc' := 15) (v := nI 0) dX5_isIn_14 rfl rfl ?_
      refine j_reti dX5_isIn_15 rfl (by first | rfl | exact bi_n _) ?_
      refine ⟨?_, rfl⟩
      first | (refine bi_T (decide_eq_true ?_); simp only [Int32.le_iff_toInt_le, Int32.lt_iff_toInt_lt] at *; omega) | (refine bi_F (decide_eq_false ?_); simp only [Int32.le_iff_toInt_le, Int32.lt_iff_toInt_lt] at *; omega)
    ·
      refine j_iconst (pc' := 11) (v := nI 1) dX5_isIn_10 rfl rfl ?_
      refine j_goto (tgt := 15) dX5_isIn_11 (by decide) ?_
      refine j_reti dX5_isIn_15 rfl (by first | rfl | exact bi_n _) ?_
      refine ⟨?_, rfl⟩
      first | (refine bi_T (decide_eq_true ?_); simp only [Int32.le_iff_toInt_le, Int32.lt_iff_toInt_lt] at *; omega) | (refine bi_F (decide_eq_false ?_); simp only [Int32.le_iff_toInt_le, Int32.lt_iff_toInt_lt] at *; omega)

set_option maxRecDepth 100000 in
set_option maxHeartbeats 4000000 in
theorem c_X5_isError (E : jx_E) (l : Launch) (n : Nat) (kd : jx_K) (R : jx_R) (I : jx_I) (x : Int32)  : jx_Ci E l yX5_isError cX5_isError 1 (some .boolean) 0 n kd R I [.int x] (fun r I' => r = bi (decide (x ≤ -20001)) ∧ I' = I) := by
  refine jx_C0.ofJ RX5 [some (.int x)] (by decide) rfl rfl (Nat.le_of_ble_eq_true rfl) rfl ?_
  refine j_iload_n (pc' := 1) dX5_isError_0 rfl rfl ?_
  refine j_sipush (pc' := 4) (v := -20001) dX5_isError_1 rfl rfl ?_
  first | refine j_icmp_gtN' (tgt := 11) (pc' := 7) (by with_reducible rfl) (by with_reducible rfl) (by omega) (by omega) dX5_isError_4 rfl (by decide) (fun c4 => ?_) (fun c4 => ?_) | refine j_icmp_gt (tgt := 11) (pc' := 7) dX5_isError_4 rfl (by decide) (fun c4 => ?_) (fun c4 => ?_)
  ·
    refine j_iconst (pc' := 12) (v := nI 0) dX5_isError_11 rfl rfl ?_
    refine j_reti dX5_isError_12 rfl (by first | rfl | exact bi_n _) ?_
    refine ⟨?_, rfl⟩
    first | (refine bi_T (decide_eq_true ?_); simp only [Int32.le_iff_toInt_le, Int32.lt_iff_toInt_lt] at *; omega) | (refine bi_F (decide_eq_false ?_); simp only [Int32.le_iff_toInt_le, Int32.lt_iff_toInt_lt] at *; omega)
  ·
    refine j_iconst (pc' := 8) (v := nI 1) dX5_isError_7 rfl rfl ?_
    refine j_goto (tgt := 12) dX5_isError_8 (by decide) ?_
    refine j_reti dX5_isError_12 rfl (by first | rfl | exact bi_n _) ?_
    refine ⟨?_, rfl⟩
    first | (refine bi_T (decide_eq_true ?_); simp only [Int32.le_iff_toInt_le, Int32.lt_iff_toInt_lt] at *; omega) | (refine bi_F (decide_eq_false ?_); simp only [Int32.le_iff_toInt_le, Int32.lt_iff_toInt_lt] at *; omega)
