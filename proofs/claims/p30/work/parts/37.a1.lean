/-! ===== the class: a point ===== -/
def sPt (kd : jx_K) (R : jx_R) (p : Nat) : Prop := kd p = (2, 0) ∧ kd (p + 1) = (7, 7) ∧ kd (p + 2) = (7, 40) ∧ R p 0 = some (p + 1) ∧ R p 1 = some (p + 2)
def aPt (I : jx_I) (p : Nat) (v : Nat → Int32) (i : Nat) : Prop := (∀ j, j < 7 → I (p + 1) j = v (176 + 56 * i + j)) ∧ I p 2 = v (176 + 56 * i + 15) ∧ I p 3 = v (176 + 56 * i + 7) ∧ I p 4 = v (176 + 56 * i + 8) ∧ I p 5 = v (176 + 56 * i + 9) ∧ I p 6 = v (176 + 56 * i + 10) ∧ I p 7 = v (176 + 56 * i + 11) ∧ I p 8 = v (176 + 56 * i + 12) ∧ I p 9 = v (176 + 56 * i + 13) ∧ I p 10 = v (176 + 56 * i + 14) ∧ (∀ j, j < 40 → j < (v (176 + 56 * i + 15)).toNatClampNeg → I (p + 2) j = v (176 + 56 * i + (16 + j)))
theorem bi_e0 {b : Bool} : (bi b = 0) = (b = false) := propext bi_0
theorem bi_e1 {b : Bool} : (bi b = nI 1) = (b = true) := propext bi_1
theorem sCl_e {k L d x : Int32} : sCl k L d x = if k = 0 then decide (x < L - d) else decide (L + d < x) := by
  unfold sCl
  by_cases hd : d = 0
  · subst hd
    rw [if_pos rfl, Int32.sub_zero, Int32.add_zero, sOv]
    by_cases hk : k = 0
    · rw [if_pos hk, if_pos hk]
      by_cases h : L ≤ x
      · rw [decide_eq_true h, decide_eq_false (Int32.not_lt.mpr h)]; rfl
      · rw [decide_eq_false h, decide_eq_true (Int32.not_le.mp h)]; rfl
    · rw [if_neg hk, if_neg hk]
      by_cases h : x ≤ L
      · rw [decide_eq_true h, decide_eq_false (Int32.not_lt.mpr h)]; rfl
      · rw [decide_eq_false h, decide_eq_true (Int32.not_le.mp h)]; rfl
  · rw [if_neg hd]

set_option maxRecDepth 100000 in
set_option maxHeartbeats 4000000 in
theorem c_X2_stands {E : jx_E} {l : Launch} {n : Nat} {kd : jx_K} {R : jx_R} {I : jx_I} {p : Nat} {v : Nat → Int32} {i : Nat} {b9 b10 : Bool} (hp : sPt kd R p) (h : aPt I p v i) (ha : v (176 + 56 * i + 9) = bi b9) (hb : v (176 + 56 * i + 10) = bi b10) : jx_Ci E l yX2_stands cX2_stands 1 (some .boolean) 0 n kd R (I) [.ref p] (fun r I' => r = (bi (sStand v i)) ∧ I' = I) := by
  obtain ⟨K0, K1, K2, R0, R1⟩ := id hp
  obtain ⟨hst, h15, h7, h8, h9, h10, h11, h12, h13, h14, hvl⟩ := id h
  have s0 := hst 0 (by decide)
  have s1 := hst 1 (by decide)
  have s2 := hst 2 (by decide)
  have s3 := hst 3 (by decide)
  have s4 := hst 4 (by decide)
  have s5 := hst 5 (by decide)
  have s6 := hst 6 (by decide)
  refine jx_C0.ofJ RX2 [some (.ref p)] (by decide) rfl rfl (Nat.le_of_ble_eq_true rfl) rfl ?_
  refine j_aload_n (pc' := 1) dX2_stands_0 rfl rfl ?_
  refine j_getIv (pc' := 4) f_X2_28 (by assumption) (by first | (simp (disch := omega) only [jx_upS, jx_upK, jx_upA, s0, s1, s2, s3, s4, s5, s6, h15, h7, h8, h9, h10, h11, h12, h13, h14, ha, hb]; rfl) | rfl) dX2_stands_1 rfl ?_
  first | refine j_if_neB' (tgt := 14) (pc' := 7) (by with_reducible rfl) dX2_stands_4 rfl (by decide) (fun c4 => ?_) (fun c4 => ?_) | refine j_if_neN' (tgt := 14) (pc' := 7) (by with_reducible rfl) (by omega) dX2_stands_4 rfl (by decide) (fun c4 => ?_) (fun c4 => ?_) | refine j_if_ne (tgt := 14) (pc' := 7) dX2_stands_4 rfl (by decide) (fun c4 => ?_) (fun c4 => ?_)
  ·
    refine j_iconst (pc' := 15) (v := nI 1) dX2_stands_14 rfl rfl ?_
    refine j_goto (tgt := 19) dX2_stands_15 (by decide) ?_
    refine j_reti dX2_stands_19 rfl (by first | rfl | exact bi_n _) ?_
    refine ⟨?_, rfl⟩
    unfold sStand
    rw [ha, hb]
    simp only [bi_e0, bi_e1]
    try rw [c4]
    first | rfl | (cases b9 <;> cases b10 <;> first | rfl | contradiction)
  ·
    refine j_aload_n (pc' := 8) dX2_stands_7 rfl rfl ?_
    refine j_getIv (pc' := 11) f_X2_32 (by assumption) (by first | (simp (disch := omega) only [jx_upS, jx_upK, jx_upA, s0, s1, s2, s3, s4, s5, s6, h15, h7, h8, h9, h10, h11, h12, h13, h14, ha, hb]; rfl) | rfl) dX2_stands_8 rfl ?_
    first | refine j_if_neB' (tgt := 18) (pc' := 14) (by with_reducible rfl) dX2_stands_11 rfl (by decide) (fun c11 => ?_) (fun c11 => ?_) | refine j_if_neN' (tgt := 18) (pc' := 14) (by with_reducible rfl) (by omega) dX2_stands_11 rfl (by decide) (fun c11 => ?_) (fun c11 => ?_) | refine j_if_ne (tgt := 18) (pc' := 14) dX2_stands_11 rfl (by decide) (fun c11 => ?_) (fun c11 => ?_)
    ·
      refine j_iconst (pc' := 19) (v := nI 0) dX2_stands_18 rfl rfl ?_
      refine j_reti dX2_stands_19 rfl (by first | rfl | exact bi_n _) ?_
      refine ⟨?_, rfl⟩
      unfold sStand
      rw [ha, hb]
      simp only [bi_e0, bi_e1]
      try rw [c4]
      try rw [c11]
      first | rfl | (cases b9 <;> cases b10 <;> first | rfl | contradiction)
    ·
      refine j_iconst (pc' := 15) (v := nI 1) dX2_stands_14 rfl rfl ?_
      refine j_goto (tgt := 19) dX2_stands_15 (by decide) ?_
      refine j_reti dX2_stands_19 rfl (by first | rfl | exact bi_n _) ?_
      refine ⟨?_, rfl⟩
      unfold sStand
      rw [ha, hb]
      simp only [bi_e0, bi_e1]
      try rw [c4]
      try rw [c11]
      first | rfl | (cases b9 <;> cases b10 <;> first | rfl | contradiction)

set_option maxRecDepth 100000 in
set_option maxHeartbeats 4000000 in
theorem c_X2_isShelved {E : jx_E} {l : Launch} {n : Nat} {kd : jx_K} {R : jx_R} {I : jx_I} {p : Nat} {v : Nat → Int32} {i : Nat}  (hp : sPt kd R p) (h : aPt I p v i)  : jx_Ci E l yX2_isShelved cX2_isShelved 1 (some .boolean) 0 n kd R (I) [.ref p] (fun r I' => r = (bi (decide (0 < v (176 + 56 * i + 13)))) ∧ I' = I) := by
  obtain ⟨K0, K1, K2, R0, R1⟩ := id hp
  obtain ⟨hst, h15, h7, h8, h9, h10, h11, h12, h13, h14, hvl⟩ := id h
  have s0 := hst 0 (by decide)
  have s1 := hst 1 (by decide)
  have s2 := hst 2 (by decide)
  have s3 := hst 3 (by decide)
  have s4 := hst 4 (by decide)
  have s5 := hst 5 (by decide)
  have s6 := hst 6 (by decide)
  refine jx_C0.ofJ RX2 [some (.ref p)] (by decide) rfl rfl (Nat.le_of_ble_eq_true rfl) rfl ?_
  refine j_aload_n (pc' := 1) dX2_isShelved_0 rfl rfl ?_
  refine j_getIv (pc' := 4) f_X2_41 (by assumption) (by first | (simp (disch := omega) only [jx_upS, jx_upK, jx_upA, s0, s1, s2, s3, s4, s5, s6, h15, h7, h8, h9, h10, h11, h12, h13, h14]; rfl) | rfl) dX2_isShelved_1 rfl ?_
  first | refine j_if_leN' (tgt := 11) (pc' := 7) (by with_reducible rfl) (by omega) dX2_isShelved_4 rfl (by decide) (fun c4 => ?_) (fun c4 => ?_) | refine j_if_le (tgt := 11) (pc' := 7) dX2_isShelved_4 rfl (by decide) (fun c4 => ?_) (fun c4 => ?_)
  ·
    refine j_iconst (pc' := 12) (v := nI 0) dX2_isShelved_11 rfl rfl ?_
    refine j_reti dX2_isShelved_12 rfl (by first | rfl | exact bi_n _) ?_
    refine ⟨?_, rfl⟩
    first | exact bi_T (decide_eq_true (by assumption)) | exact bi_F (decide_eq_false (by assumption)) | exact bi_T (decide_eq_true (Int32.not_lt.mp (by assumption))) | exact bi_T (decide_eq_true (Int32.not_le.mp (by assumption))) | exact bi_F (decide_eq_false (Int32.not_lt.mpr (by assumption))) | exact bi_F (decide_eq_false (Int32.not_le.mpr (by assumption)))
  ·
    refine j_iconst (pc' := 8) (v := nI 1) dX2_isShelved_7 rfl rfl ?_
    refine j_goto (tgt := 12) dX2_isShelved_8 (by decide) ?_
    refine j_reti dX2_isShelved_12 rfl (by first | rfl | exact bi_n _) ?_
    refine ⟨?_, rfl⟩
    first | exact bi_T (decide_eq_true (by assumption)) | exact bi_F (decide_eq_false (by assumption)) | exact bi_T (decide_eq_true (Int32.not_lt.mp (by assumption))) | exact bi_T (decide_eq_true (Int32.not_le.mp (by assumption))) | exact bi_F (decide_eq_false (Int32.not_lt.mpr (by assumption))) | exact bi_F (decide_eq_false (Int32.not_le.mpr (by assumption)))

set_option maxRecDepth 100000 in
set_option maxHeartbeats 4000000 in
theorem c_X2_hasHighestPriority {E : jx_E} {l : Launch} {n : Nat} {kd : jx_K} {R : jx_R} {I : jx_I} {p : Nat} {v : Nat → Int32} {i : Nat}  (hp : sPt kd R p) (h : aPt I p v i)  : jx_Ci E l yX2_hasHighestPriority cX2_hasHighestPriority 1 (some .boolean) 0 n kd R (I) [.ref p] (fun r I' => r = (bi (decide (v (176 + 56 * i + 5) = nI 1))) ∧ I' = I) := by
  obtain ⟨K0, K1, K2, R0, R1⟩ := id hp
  obtain ⟨hst, h15, h7, h8, h9, h10, h11, h12, h13, h14, hvl⟩ := id h
  have s0 := hst 0 (by decide)
  have s1 := hst 1 (by decide)
  have s2 := hst 2 (by decide)
  have s3 := hst 3 (by decide)
  have s4 := hst 4 (by decide)
  have s5 := hst 5 (by decide)
  have s6 := hst 6 (by decide)
  refine jx_C0.ofJ RX2 [some (.ref p)] (by decide) rfl rfl (Nat.le_of_ble_eq_true rfl) rfl ?_
  refine j_aload_n (pc' := 1) dX2_hasHighestPriority_0 rfl rfl ?_
  refine j_getR (pc' := 4) f_X2_9 (by assumption) (by assumption) dX2_hasHighestPriority_1 rfl ?_
  refine j_iconst (pc' := 5) (v := nI 5) dX2_hasHighestPriority_4 rfl rfl ?_
  refine j_ialdv (pc' := 6) (by assumption) rfl (by omega) (by omega) (by first | (simp (disch := omega) only [jx_upS, jx_upK, jx_upA, s0, s1, s2, s3, s4, s5, s6, h15, h7, h8, h9, h10, h11, h12, h13, h14]; rfl) | rfl) dX2_hasHighestPriority_5 rfl ?_
  refine j_iconst (pc' := 7) (v := nI 1) dX2_hasHighestPriority_6 rfl rfl ?_
  first | refine j_icmp_neN' (tgt := 14) (pc' := 10) (by with_reducible rfl) (by with_reducible rfl) (by omega) (by omega) dX2_hasHighestPriority_7 rfl (by decide) (fun c7 => ?_) (fun c7 => ?_) | refine j_icmp_ne (tgt := 14) (pc' := 10) dX2_hasHighestPriority_7 rfl (by decide) (fun c7 => ?_) (fun c7 => ?_)
  ·
    refine j_iconst (pc' := 15) (v := nI 0) dX2_hasHighestPriority_14 rfl rfl ?_
    refine j_reti dX2_hasHighestPriority_15 rfl (by first | rfl | exact bi_n _) ?_
    refine ⟨?_, rfl⟩
    first | exact bi_T (decide_eq_true (by assumption)) | exact bi_F (decide_eq_false (by assumption)) | exact bi_T (decide_eq_true (Int32.not_lt.mp (by assumption))) | exact bi_T (decide_eq_true (Int32.not_le.mp (by assumption))) | exact bi_F (decide_eq_false (Int32.not_lt.mpr (by assumption))) | exact bi_F (decide_eq_false (Int32.not_le.mpr (by assumption)))
  ·
    refine j_iconst (pc' := 11) (v := nI 1) dX2_hasHighestPriority_10 rfl rfl ?_
    refine j_goto (tgt := 15) dX2_hasHighestPriority_11 (by decide) ?_
    refine j_reti dX2_hasHighestPriority_15 rfl (by first | rfl | exact bi_n _) ?_
    refine ⟨?_, rfl⟩
    first | exact bi_T (decide_eq_true (by assumption)) | exact bi_F (decide_eq_false (by assumption)) | exact bi_T (decide_eq_true (Int32.not_lt.mp (by assumption))) | exact bi_T (decide_eq_true (Int32.not_le.mp (by assumption))) | exact bi_F (decide_eq_false (Int32.not_lt.mpr (by assumption))) | exact bi_F (decide_eq_false (Int32.not_le.mpr (by assumption)))

set_option maxRecDepth 100000 in
set_option maxHeartbeats 4000000 in
theorem c_X2_isOver {E : jx_E} {l : Launch} {n : Nat} {kd : jx_K} {R : jx_R} {I : jx_I} {p : Nat} {v : Nat → Int32} {i : Nat} {x : Int32} (hp : sPt kd R p) (h : aPt I p v i)  : jx_Ci E l yX2_isOver cX2_isOver 2 (some .boolean) 0 n kd R (I) [.ref p, .int x] (fun r I' => r = (bi (sOv (v (176 + 56 * i + 0)) (v (176 + 56 * i + 1)) x)) ∧ I' = I) := by
  obtain ⟨K0, K1, K2, R0, R1⟩ := id hp
  obtain ⟨hst, h15, h7, h8, h9, h10, h11, h12, h13, h14, hvl⟩ := id h
  have s0 := hst 0 (by decide)
  have s1 := hst 1 (by decide)
  have s2 := hst 2 (by decide)
  have s3 := hst 3 (by decide)
  have s4 := hst 4 (by decide)
  have s5 := hst 5 (by decide)
  have s6 := hst 6 (by decide)
  refine jx_C0.ofJ RX2 [some (.ref p), some (.int x)] (by decide) rfl rfl (Nat.le_of_ble_eq_true rfl) rfl ?_
  refine j_aload_n (pc' := 1) dX2_isOver_0 rfl rfl ?_
  refine j_getR (pc' := 4) f_X2_9 (by assumption) (by assumption) dX2_isOver_1 rfl ?_
  refine j_iconst (pc' := 5) (v := nI 0) dX2_isOver_4 rfl rfl ?_
  refine j_ialdv (pc' := 6) (by assumption) rfl (by omega) (by omega) (by first | (simp (disch := omega) only [jx_upS, jx_upK, jx_upA, s0, s1, s2, s3, s4, s5, s6, h15, h7, h8, h9, h10, h11, h12, h13, h14]; rfl) | rfl) dX2_isOver_5 rfl ?_
  first | refine j_if_neB' (tgt := 27) (pc' := 9) (by with_reducible rfl) dX2_isOver_6 rfl (by decide) (fun c6 => ?_) (fun c6 => ?_) | refine j_if_neN' (tgt := 27) (pc' := 9) (by with_reducible rfl) (by omega) dX2_isOver_6 rfl (by decide) (fun c6 => ?_) (fun c6 => ?_) | refine j_if_ne (tgt := 27) (pc' := 9) dX2_isOver_6 rfl (by decide) (fun c6 => ?_) (fun c6 => ?_)
  ·
    refine j_iload_n (pc' := 28) dX2_isOver_27 rfl rfl ?_
    refine j_aload_n (pc' := 29) dX2_isOver_28 rfl rfl ?_
    refine j_getR (pc' := 32) f_X2_9 (by assumption) (by assumption) dX2_isOver_29 rfl ?_
    refine j_iconst (pc' := 33) (v := nI 1) dX2_isOver_32 rfl rfl ?_
    refine j_ialdv (pc' := 34) (by assumption) rfl (by omega) (by omega) (by first | (simp (disch := omega) only [jx_upS, jx_upK, jx_upA, s0, s1, s2, s3, s4, s5, s6, h15, h7, h8, h9, h10, h11, h12, h13, h14]; rfl) | rfl) dX2_isOver_33 rfl ?_
    first | refine j_icmp_gtN' (tgt := 41) (pc' := 37) (by with_reducible rfl) (by with_reducible rfl) (by omega) (by omega) dX2_isOver_34 rfl (by decide) (fun c34 => ?_) (fun c34 => ?_) | refine j_icmp_gt (tgt := 41) (pc' := 37) dX2_isOver_34 rfl (by decide) (fun c34 => ?_) (fun c34 => ?_)
    ·
      refine j_iconst (pc' := 42) (v := nI 0) dX2_isOver_41 rfl rfl ?_
      refine j_reti dX2_isOver_42 rfl (by first | rfl | exact bi_n _) ?_
      refine ⟨?_, rfl⟩
      unfold sOv
      first | rw [if_pos c6] | rw [if_neg c6]
      first | exact bi_T (decide_eq_true (by assumption)) | exact bi_F (decide_eq_false (by assumption)) | exact bi_T (decide_eq_true (Int32.not_lt.mp (by assumption))) | exact bi_T (decide_eq_true (Int32.not_le.mp (by assumption))) | exact bi_F (decide_eq_false (Int32.not_lt.mpr (by assumption))) | exact bi_F (decide_eq_false (Int32.not_le.mpr (by assumption)))
    ·
      refine j_iconst (pc' := 38) (v := nI 1) dX2_isOver_37 rfl rfl ?_
      refine j_goto (tgt := 42) dX2_isOver_38 (by decide) ?_
      refine j_reti dX2_isOver_42 rfl (by first | rfl | exact bi_n _) ?_
      refine ⟨?_, rfl⟩
      unfold sOv
      first | rw [if_pos c6] | rw [if_neg c6]
      first | exact bi_T (decide_eq_true (by assumption)) | exact bi_F (decide_eq_false (by assumption)) | exact bi_T (decide_eq_true (Int32.not_lt.mp (by assumption))) | exact bi_T (decide_eq_true (Int32.not_le.mp (by assumption))) | exact bi_F (decide_eq_false (Int32.not_lt.mpr (by assumption))) | exact bi_F (decide_eq_false (Int32.not_le.mpr (by assumption)))
  ·
    refine j_iload_n (pc' := 10) dX2_isOver_9 rfl rfl ?_
    refine j_aload_n (pc' := 11) dX2_isOver_10 rfl rfl ?_
    refine j_getR (pc' := 14) f_X2_9 (by assumption) (by assumption) dX2_isOver_11 rfl ?_
    refine j_iconst (pc' := 15) (v := nI 1) dX2_isOver_14 rfl rfl ?_
    refine j_ialdv (pc' := 16) (by assumption) rfl (by omega) (by omega) (by first | (simp (disch := omega) only [jx_upS, jx_upK, jx_upA, s0, s1, s2, s3, s4, s5, s6, h15, h7, h8, h9, h10, h11, h12, h13, h14]; rfl) | rfl) dX2_isOver_15 rfl ?_
    first | refine j_icmp_ltN' (tgt := 23) (pc' := 19) (by with_reducible rfl) (by with_reducible rfl) (by omega) (by omega) dX2_isOver_16 rfl (by decide) (fun c16 => ?_) (fun c16 => ?_) | refine j_icmp_lt (tgt := 23) (pc' := 19) dX2_isOver_16 rfl (by decide) (fun c16 => ?_) (fun c16 => ?_)
    ·
      refine j_iconst (pc' := 24) (v := nI 0) dX2_isOver_23 rfl rfl ?_
      refine j_goto (tgt := 42) dX2_isOver_24 (by decide) ?_
      refine j_reti dX2_isOver_42 rfl (by first | rfl | exact bi_n _) ?_
      refine ⟨?_, rfl⟩
      unfold sOv
      first | rw [if_pos c6] | rw [if_neg c6]
      first | exact bi_T (decide_eq_true (by assumption)) | exact bi_F (decide_eq_false (by assumption)) | exact bi_T (decide_eq_true (Int32.not_lt.mp (by assumption))) | exact bi_T (decide_eq_true (Int32.not_le.mp (by assumption))) | exact bi_F (decide_eq_false (Int32.not_lt.mpr (by assumption))) | exact bi_F (decide_eq_false (Int32.not_le.mpr (by assumption)))
    ·
      refine j_iconst (pc' := 20) (v := nI 1) dX2_isOver_19 rfl rfl ?_
      refine j_goto (tgt := 42) dX2_isOver_20 (by decide) ?_
      refine j_reti dX2_isOver_42 rfl (by first | rfl | exact bi_n _) ?_
      refine ⟨?_, rfl⟩
      unfold sOv
      first | rw [if_pos c6] | rw [if_neg c6]
      first | exact bi_T (decide_eq_true (by assumption)) | exact bi_F (decide_eq_false (by assumption)) | exact bi_T (decide_eq_true (Int32.not_lt.mp (by assumption))) | exact bi_T (decide_eq_true (Int32.not_le.mp (by assumption))) | exact bi_F (decide_eq_false (Int32.not_lt.mpr (by assumption))) | exact bi_F (decide_eq_false (Int32.not_le.mpr (by assumption)))

set_option maxRecDepth 100000 in
set_option maxHeartbeats 4000000 in
theorem c_X2_isClear {E : jx_E} {l : Launch} {n : Nat} {kd : jx_K} {R : jx_R} {I : jx_I} {p : Nat} {v : Nat → Int32} {i : Nat} {x d : Int32} (hp : sPt kd R p) (h : aPt I p v i)  : jx_Ci E l yX2_isClear cX2_isClear 3 (some .boolean) 0 n kd R (I) [.ref p, .int x, .int d] (fun r I' => r = (bi (sCl (v (176 + 56 * i + 0)) (v (176 + 56 * i + 1)) d x)) ∧ I' = I) := by
  obtain ⟨K0, K1, K2, R0, R1⟩ := id hp
  obtain ⟨hst, h15, h7, h8, h9, h10, h11, h12, h13, h14, hvl⟩ := id h
  have s0 := hst 0 (by decide)
  have s1 := hst 1 (by decide)
  have s2 := hst 2 (by decide)
  have s3 := hst 3 (by decide)
  have s4 := hst 4 (by decide)
  have s5 := hst 5 (by decide)
  have s6 := hst 6 (by decide)
  refine jx_C0.ofJ RX2 [some (.ref p), some (.int x), some (.int d)] (by decide) rfl rfl (Nat.le_of_ble_eq_true rfl) rfl ?_
  refine j_aload_n (pc' := 1) dX2_isClear_0 rfl rfl ?_
  refine j_getR (pc' := 4) f_X2_9 (by assumption) (by assumption) dX2_isClear_1 rfl ?_
  refine j_iconst (pc' := 5) (v := nI 0) dX2_isClear_4 rfl rfl ?_
  refine j_ialdv (pc' := 6) (by assumption) rfl (by omega) (by omega) (by first | (simp (disch := omega) only [jx_upS, jx_upK, jx_upA, s0, s1, s2, s3, s4, s5, s6, h15, h7, h8, h9, h10, h11, h12, h13, h14]; rfl) | rfl) dX2_isClear_5 rfl ?_
  first | refine j_if_neB' (tgt := 29) (pc' := 9) (by with_reducible rfl) dX2_isClear_6 rfl (by decide) (fun c6 => ?_) (fun c6 => ?_) | refine j_if_neN' (tgt := 29) (pc' := 9) (by with_reducible rfl) (by omega) dX2_isClear_6 rfl (by decide) (fun c6 => ?_) (fun c6 => ?_) | refine j_if_ne (tgt := 29) (pc' := 9) dX2_isClear_6 rfl (by decide) (fun c6 => ?_) (fun c6 => ?_)
  ·
    refine j_iload_n (pc' := 30) dX2_isClear_29 rfl rfl ?_
    refine j_aload_n (pc' := 31) dX2_isClear_30 rfl rfl ?_
    refine j_getR (pc' := 34) f_X2_9 (by assumption) (by assumption) dX2_isClear_31 rfl ?_
    refine j_iconst (pc' := 35) (v := nI 1) dX2_isClear_34 rfl rfl ?_
    refine j_ialdv (pc' := 36) (by assumption) rfl (by omega) (by omega) (by first | (simp (disch := omega) only [jx_upS, jx_upK, jx_upA, s0, s1, s2, s3, s4, s5, s6, h15, h7, h8, h9, h10, h11, h12, h13, h14]; rfl) | rfl) dX2_isClear_35 rfl ?_
    refine j_iload_n (pc' := 37) dX2_isClear_36 rfl rfl ?_
    refine j_iadd (pc' := 38) dX2_isClear_37 rfl ?_
    first | refine j_icmp_leN' (tgt := 45) (pc' := 41) (by with_reducible rfl) (by with_reducible rfl) (by omega) (by omega) dX2_isClear_38 rfl (by decide) (fun c38 => ?_) (fun c38 => ?_) | refine j_icmp_le (tgt := 45) (pc' := 41) dX2_isClear_38 rfl (by decide) (fun c38 => ?_) (fun c38 => ?_)
    ·
      refine j_iconst (pc' := 46) (v := nI 0) dX2_isClear_45 rfl rfl ?_
      refine j_reti dX2_isClear_46 rfl (by first | rfl | exact bi_n _) ?_
      refine ⟨?_, rfl⟩
      rw [sCl_e]
      first | rw [if_pos c6] | rw [if_neg c6]
      first | exact bi_T (decide_eq_true (by assumption)) | exact bi_F (decide_eq_false (by assumption)) | exact bi_T (decide_eq_true (Int32.not_lt.mp (by assumption))) | exact bi_T (decide_eq_true (Int32.not_le.mp (by assumption))) | exact bi_F (decide_eq_false (Int32.not_lt.mpr (by assumption))) | exact bi_F (decide_eq_false (Int32.not_le.mpr (by assumption)))
    ·
      refine j_iconst (pc' := 42) (v := nI 1) dX2_isClear_41 rfl rfl ?_
      refine j_goto (tgt := 46) dX2_isClear_42 (by decide) ?_
      refine j_reti dX2_isClear_46 rfl (by first | rfl | exact bi_n _) ?_
      refine ⟨?_, rfl⟩
      rw [sCl_e]
      first | rw [if_pos c6] | rw [if_neg c6]
      first | exact bi_T (decide_eq_true (by assumption)) | exact bi_F (decide_eq_false (by assumption)) | exact bi_T (decide_eq_true (Int32.not_lt.mp (by assumption))) | exact bi_T (decide_eq_true (Int32.not_le.mp (by assumption))) | exact bi_F (decide_eq_false (Int32.not_lt.mpr (by assumption))) | exact bi_F (decide_eq_false (Int32.not_le.mpr (by assumption)))
  ·
    refine j_iload_n (pc' := 10) dX2_isClear_9 rfl rfl ?_
    refine j_aload_n (pc' := 11) dX2_isClear_10 rfl rfl ?_
    refine j_getR (pc' := 14) f_X2_9 (by assumption) (by assumption) dX2_isClear_11 rfl ?_
    refine j_iconst (pc' := 15) (v := nI 1) dX2_isClear_14 rfl rfl ?_
    refine j_ialdv (pc' := 16) (by assumption) rfl (by omega) (by omega) (by first | (simp (disch := omega) only [jx_upS, jx_upK, jx_upA, s0, s1, s2, s3, s4, s5, s6, h15, h7, h8, h9, h10, h11, h12, h13, h14]; rfl) | rfl) dX2_isClear_15 rfl ?_
    refine j_iload_n (pc' := 17) dX2_isClear_16 rfl rfl ?_
    refine j_isub (pc' := 18) dX2_isClear_17 rfl ?_
    first | refine j_icmp_geN' (tgt := 25) (pc' := 21) (by with_reducible rfl) (by with_reducible rfl) (by omega) (by omega) dX2_isClear_18 rfl (by decide) (fun c18 => ?_) (fun c18 => ?_) | refine j_icmp_ge (tgt := 25) (pc' := 21) dX2_isClear_18 rfl (by decide) (fun c18 => ?_) (fun c18 => ?_)
    ·
      refine j_iconst (pc' := 26) (v := nI 0) dX2_isClear_25 rfl rfl ?_
      refine j_goto (tgt := 46) dX2_isClear_26 (by decide) ?_
      refine j_reti dX2_isClear_46 rfl (by first | rfl | exact bi_n _) ?_
      refine ⟨?_, rfl⟩
      rw [sCl_e]
      first | rw [if_pos c6] | rw [if_neg c6]
      first | exact bi_T (decide_eq_true (by assumption)) | exact bi_F (decide_eq_false (by assumption)) | exact bi_T (decide_eq_true (Int32.not_lt.mp (by assumption))) | exact bi_T (decide_eq_true (Int32.not_le.mp (by assumption))) | exact bi_F (decide_eq_false (Int32.not_lt.mpr (by assumption))) | exact bi_F (decide_eq_false (Int32.not_le.mpr (by assumption)))
    ·
      refine j_iconst (pc' := 22) (v := nI 1) dX2_isClear_21 rfl rfl ?_
      refine j_goto (tgt := 46) dX2_isClear_22 (by decide) ?_
      refine j_reti dX2_isClear_46 rfl (by first | rfl | exact bi_n _) ?_
      refine ⟨?_, rfl⟩
      rw [sCl_e]
      first | rw [if_pos c6] | rw [if_neg c6]
      first | exact bi_T (decide_eq_true (by assumption)) | exact bi_F (decide_eq_false (by assumption)) | exact bi_T (decide_eq_true (Int32.not_lt.mp (by assumption))) | exact bi_T (decide_eq_true (Int32.not_le.mp (by assumption))) | exact bi_F (decide_eq_false (Int32.not_lt.mpr (by assumption))) | exact bi_F (decide_eq_false (Int32.not_le.mpr (by assumption)))

set_option maxRecDepth 100000 in
set_option maxHeartbeats 4000000 in
theorem c_X2_isTurning {E : jx_E} {l : Launch} {n : Nat} {kd : jx_K} {R : jx_R} {I : jx_I} {p : Nat} {v : Nat → Int32} {i : Nat} {b9 : Bool} (hp : sPt kd R p) (h : aPt I p v i) (ha : v (176 + 56 * i + 9) = bi b9) : jx_Ci E l yX2_isTurning cX2_isTurning 1 (some .boolean) 1 n kd R (I) [.ref p] (fun r I' => r = (bi (lkG v i)) ∧ I' = I) := by
  obtain ⟨K0, K1, K2, R0, R1⟩ := id hp
  obtain ⟨hst, h15, h7, h8, h9, h10, h11, h12, h13, h14, hvl⟩ := id h
  have s0 := hst 0 (by decide)
  have s1 := hst 1 (by decide)
  have s2 := hst 2 (by decide)
  have s3 := hst 3 (by decide)
  have s4 := hst 4 (by decide)
  have s5 := hst 5 (by decide)
  have s6 := hst 6 (by decide)
  refine jx_C0.ofJ RX2 [some (.ref p)] (by decide) rfl rfl (Nat.le_of_ble_eq_true rfl) rfl ?_
  refine j_aload_n (pc' := 1) dX2_isTurning_0 rfl rfl ?_
  refine j_getIv (pc' := 4) f_X2_28 (by assumption) (by first | (simp (disch := omega) only [jx_upS, jx_upK, jx_upA, s0, s1, s2, s3, s4, s5, s6, h15, h7, h8, h9, h10, h11, h12, h13, h14, ha]; rfl) | rfl) dX2_isTurning_1 rfl ?_
  first | refine j_if_eqB' (tgt := 24) (pc' := 7) (by with_reducible rfl) dX2_isTurning_4 rfl (by decide) (fun c4 => ?_) (fun c4 => ?_) | refine j_if_eqN' (tgt := 24) (pc' := 7) (by with_reducible rfl) (by omega) dX2_isTurning_4 rfl (by decide) (fun c4 => ?_) (fun c4 => ?_) | refine j_if_eq (tgt := 24) (pc' := 7) dX2_isTurning_4 rfl (by decide) (fun c4 => ?_) (fun c4 => ?_)
  ·
    refine j_aload_n (pc' := 25) dX2_isTurning_24 rfl rfl ?_
    refine j_aload_n (pc' := 26) dX2_isTurning_25 rfl rfl ?_
    refine j_getIv (pc' := 29) f_X2_22 (by assumption) (by first | (simp (disch := omega) only [jx_upS, jx_upK, jx_upA, s0, s1, s2, s3, s4, s5, s6, h15, h7, h8, h9, h10, h11, h12, h13, h14, ha]; rfl) | rfl) dX2_isTurning_26 rfl ?_
    refine j_cVi (pc' := 32) m_X2_57 (c_X2_isOver hp h) (by assumption) (by decide) rfl rfl rfl ⟨Nat.le_of_ble_eq_true rfl, Nat.le_of_ble_eq_true rfl⟩ ⟨Nat.zero_le _, Nat.zero_le _⟩ (Nat.le_of_ble_eq_true rfl) dX2_isTurning_29 rfl (fun x1 I1 hq => ?_)
    obtain ⟨rfl, rfl⟩ := hq
    refine j_reti dX2_isTurning_32 rfl (by first | rfl | exact bi_n _) ?_
    refine ⟨?_, rfl⟩
    unfold lkG
    rw [ha]
    simp only [bi_e0, c4, reduceCtorEq, reduceIte, Bool.false_eq_true, and_true, and_false, true_and, false_and, not_true_eq_false, not_false_eq_true, decide_true, decide_false, eq_self, or_true, or_false, true_or, false_or, ne_eq]
  ·
    refine j_aload_n (pc' := 8) dX2_isTurning_7 rfl rfl ?_
    refine j_aload_n (pc' := 9) dX2_isTurning_8 rfl rfl ?_
    refine j_getIv (pc' := 12) f_X2_22 (by assumption) (by first | (simp (disch := omega) only [jx_upS, jx_upK, jx_upA, s0, s1, s2, s3, s4, s5, s6, h15, h7, h8, h9, h10, h11, h12, h13, h14, ha]; rfl) | rfl) dX2_isTurning_9 rfl ?_
    refine j_aload_n (pc' := 13) dX2_isTurning_12 rfl rfl ?_
    refine j_getR (pc' := 16) f_X2_9 (by assumption) (by assumption) dX2_isTurning_13 rfl ?_
    refine j_iconst (pc' := 17) (v := nI 2) dX2_isTurning_16 rfl rfl ?_
    refine j_ialdv (pc' := 18) (by assumption) rfl (by omega) (by omega) (by first | (simp (disch := omega) only [jx_upS, jx_upK, jx_upA, s0, s1, s2, s3, s4, s5, s6, h15, h7, h8, h9, h10, h11, h12, h13, h14, ha]; rfl) | rfl) dX2_isTurning_17 rfl ?_
    refine j_cVi (pc' := 21) m_X2_53 (c_X2_isClear hp h) (by assumption) (by decide) rfl rfl rfl ⟨Nat.le_of_ble_eq_true rfl, Nat.le_of_ble_eq_true rfl⟩ ⟨Nat.zero_le _, Nat.zero_le _⟩ (Nat.le_of_ble_eq_true rfl) dX2_isTurning_18 rfl (fun x1 I1 hq => ?_)
    obtain ⟨rfl, rfl⟩ := hq
    refine j_goto (tgt := 32) dX2_isTurning_21 (by decide) ?_
    refine j_reti dX2_isTurning_32 rfl (by first | rfl | exact bi_n _) ?_
    refine ⟨?_, rfl⟩
    unfold lkG
    rw [ha]
    simp only [bi_e0, c4, reduceCtorEq, reduceIte, Bool.false_eq_true, and_true, and_false, true_and, false_and, not_true_eq_false, not_false_eq_true, decide_true, decide_false, eq_self, or_true, or_false, true_or, false_or, ne_eq]

set_option maxRecDepth 100000 in
set_option maxHeartbeats 4000000 in
theorem c_X2_delayOf {E : jx_E} {l : Launch} {n : Nat} {kd : jx_K} {R : jx_R} {I : jx_I} {p : Nat} {v : Nat → Int32} {i : Nat} {b : Bool} (hp : sPt kd R p) (h : aPt I p v i)  : jx_Ci E l yX2_delayOf cX2_delayOf 2 (some .int) 0 n kd R (I) [.ref p, .int (bi b)] (fun r I' => r = (if b = true then v (176 + 56 * i + 4) else v (176 + 56 * i + 3)) ∧ I' = I) := by
  obtain ⟨K0, K1, K2, R0, R1⟩ := id hp
  obtain ⟨hst, h15, h7, h8, h9, h10, h11, h12, h13, h14, hvl⟩ := id h
  have s0 := hst 0 (by decide)
  have s1 := hst 1 (by decide)
  have s2 := hst 2 (by decide)
  have s3 := hst 3 (by decide)
  have s4 := hst 4 (by decide)
  have s5 := hst 5 (by decide)
  have s6 := hst 6 (by decide)
  refine jx_C0.ofJ RX2 [some (.ref p), some (.int (bi b))] (by decide) rfl rfl (Nat.le_of_ble_eq_true rfl) rfl ?_
  refine j_iload_n (pc' := 1) dX2_delayOf_0 rfl rfl ?_
  first | refine j_if_eqB' (tgt := 13) (pc' := 4) (by with_reducible rfl) dX2_delayOf_1 rfl (by decide) (fun c1 => ?_) (fun c1 => ?_) | refine j_if_eqN' (tgt := 13) (pc' := 4) (by with_reducible rfl) (by omega) dX2_delayOf_1 rfl (by decide) (fun c1 => ?_) (fun c1 => ?_) | refine j_if_eq (tgt := 13) (pc' := 4) dX2_delayOf_1 rfl (by decide) (fun c1 => ?_) (fun c1 => ?_)
  ·
    refine j_aload_n (pc' := 14) dX2_delayOf_13 rfl rfl ?_
    refine j_getR (pc' := 17) f_X2_9 (by assumption) (by assumption) dX2_delayOf_14 rfl ?_
    refine j_iconst (pc' := 18) (v := nI 3) dX2_delayOf_17 rfl rfl ?_
    refine j_ialdv (pc' := 19) (by assumption) rfl (by omega) (by omega) (by first | (simp (disch := omega) only [jx_upS, jx_upK, jx_upA, s0, s1, s2, s3, s4, s5, s6, h15, h7, h8, h9, h10, h11, h12, h13, h14]; rfl) | rfl) dX2_delayOf_18 rfl ?_
    refine j_reti dX2_delayOf_19 rfl (by first | rfl | exact bi_n _) ?_
    refine ⟨?_, rfl⟩
    first | rw [if_pos c1] | rw [if_neg (by rw [c1]; decide)]
  ·
    refine j_aload_n (pc' := 5) dX2_delayOf_4 rfl rfl ?_
    refine j_getR (pc' := 8) f_X2_9 (by assumption) (by assumption) dX2_delayOf_5 rfl ?_
    refine j_iconst (pc' := 9) (v := nI 4) dX2_delayOf_8 rfl rfl ?_
    refine j_ialdv (pc' := 10) (by assumption) rfl (by omega) (by omega) (by first | (simp (disch := omega) only [jx_upS, jx_upK, jx_upA, s0, s1, s2, s3, s4, s5, s6, h15, h7, h8, h9, h10, h11, h12, h13, h14]; rfl) | rfl) dX2_delayOf_9 rfl ?_
    refine j_goto (tgt := 19) dX2_delayOf_10 (by decide) ?_
    refine j_reti dX2_delayOf_19 rfl (by first | rfl | exact bi_n _) ?_
    refine ⟨?_, rfl⟩
    first | rw [if_pos c1] | rw [if_neg (by rw [c1]; decide)]

set_option maxRecDepth 100000 in
set_option maxHeartbeats 4000000 in
theorem c_X2_putDownValue {E : jx_E} {l : Launch} {n : Nat} {kd : jx_K} {R : jx_R} {I : jx_I} {p : Nat} {v : Nat → Int32} {i : Nat} {K : Nat} (hp : sPt kd R p) (h : aPt I p v i) (hK : v (176 + 56 * i + 15) = nI K) (hK1 : K ≤ 1000000) : jx_Cv E l yX2_putDownValue cX2_putDownValue 1 none 0 n kd R (I) [.ref p] (fun I' => I' = jx_up (jx_up I (p + 2) (K % 40) (v (176 + 56 * i + 7))) p 2 (nI (K + 1))) := by
  obtain ⟨K0, K1, K2, R0, R1⟩ := id hp
  obtain ⟨hst, h15, h7, h8, h9, h10, h11, h12, h13, h14, hvl⟩ := id h
  have s0 := hst 0 (by decide)
  have s1 := hst 1 (by decide)
  have s2 := hst 2 (by decide)
  have s3 := hst 3 (by decide)
  have s4 := hst 4 (by decide)
  have s5 := hst 5 (by decide)
  have s6 := hst 6 (by decide)
  refine jx_C0.ofJ RX2 [some (.ref p)] (by decide) rfl rfl (Nat.le_of_ble_eq_true rfl) rfl ?_
  refine j_aload_n (pc' := 1) dX2_putDownValue_0 rfl rfl ?_
  refine j_getR (pc' := 4) f_X2_15 (by assumption) (by assumption) dX2_putDownValue_1 rfl ?_
  refine j_aload_n (pc' := 5) dX2_putDownValue_4 rfl rfl ?_
  refine j_getIv (pc' := 8) f_X2_18 (by assumption) (by first | (simp (disch := omega) only [jx_upS, jx_upK, jx_upA, s0, s1, s2, s3, s4, s5, s6, h15, h7, h8, h9, h10, h11, h12, h13, h14, hK]; rfl) | rfl) dX2_putDownValue_5 rfl ?_
  refine j_bipush (pc' := 10) (v := nI 40) dX2_putDownValue_8 rfl rfl ?_
  refine j_iremN' (pc' := 11) (by with_reducible rfl) (by with_reducible rfl) (by omega) (by omega) (by omega) dX2_putDownValue_10 rfl ?_
  refine j_aload_n (pc' := 12) dX2_putDownValue_11 rfl rfl ?_
  refine j_getIv (pc' := 15) f_X2_22 (by assumption) (by first | (simp (disch := omega) only [jx_upS, jx_upK, jx_upA, s0, s1, s2, s3, s4, s5, s6, h15, h7, h8, h9, h10, h11, h12, h13, h14, hK]; rfl) | rfl) dX2_putDownValue_12 rfl ?_
  have hm40 : K % 40 < 40 := Nat.mod_lt _ (by decide)
  refine j_iast (pc' := 16) (by assumption) rfl (by omega) (by omega) dX2_putDownValue_15 rfl ?_
  refine j_aload_n (pc' := 17) dX2_putDownValue_16 rfl rfl ?_
  refine j_dup (pc' := 18) dX2_putDownValue_17 rfl rfl ?_
  refine j_getIv (pc' := 21) f_X2_18 (by assumption) (by first | (simp (disch := omega) only [jx_upS, jx_upK, jx_upA, s0, s1, s2, s3, s4, s5, s6, h15, h7, h8, h9, h10, h11, h12, h13, h14, hK]; rfl) | rfl) dX2_putDownValue_18 rfl ?_
  refine j_iconst (pc' := 22) (v := nI 1) dX2_putDownValue_21 rfl rfl ?_
  first | refine j_iaddN' (pc' := 23) (by with_reducible rfl) (by with_reducible rfl) dX2_putDownValue_22 rfl ?_ | refine j_iadd (pc' := 23) dX2_putDownValue_22 rfl ?_
  refine j_putI (pc' := 26) f_X2_18 (by assumption) rfl rfl dX2_putDownValue_23 rfl ?_
  refine j_retv dX2_putDownValue_26 rfl ?_
  rfl

set_option maxRecDepth 100000 in
set_option maxHeartbeats 4000000 in
theorem c_X2_ownNumber {E : jx_E} {l : Launch} {n : Nat} {kd : jx_K} {R : jx_R} {I : jx_I} {p : Nat} {v : Nat → Int32} {i : Nat} {b9 b10 : Bool} {w : Nat} (hp : sPt kd R p) (h : aPt I p v i) (ha : v (176 + 56 * i + 9) = bi b9) (hb : v (176 + 56 * i + 10) = bi b10) (hw : w < 15) : jx_Ci E l yX2_ownNumber cX2_ownNumber 2 (some .int) 1 n kd R (I) [.ref p, .int (nI w)] (fun r I' => r = (v (176 + 56 * i + w)) ∧ I' = I) := by
  obtain ⟨K0, K1, K2, R0, R1⟩ := id hp
  obtain ⟨hst, h15, h7, h8, h9, h10, h11, h12, h13, h14, hvl⟩ := id h
  have s0 := hst 0 (by decide)
  have s1 := hst 1 (by decide)
  have s2 := hst 2 (by decide)
  have s3 := hst 3 (by decide)
  have s4 := hst 4 (by decide)
  have s5 := hst 5 (by decide)
  have s6 := hst 6 (by decide)
  refine jx_C0.ofJ RX2 [some (.ref p), some (.int (nI w))] (by decide) rfl rfl (Nat.le_of_ble_eq_true rfl) rfl ?_
  refine j_iload_n (pc' := 1) dX2_ownNumber_0 rfl rfl ?_
  by_cases t7 : nI w = nI 7
  ·
    refine j_tableIn (tgt := 48) (off := 47) dX2_ownNumber_1 (by rw [t7]; decide) (by rw [t7]; decide) (by rw [t7]; rfl) (by decide) ?_
    refine j_aload_n (pc' := 49) dX2_ownNumber_48 rfl rfl ?_
    refine j_getIv (pc' := 52) f_X2_22 (by assumption) (by first | (simp (disch := omega) only [jx_upS, jx_upK, jx_upA, s0, s1, s2, s3, s4, s5, s6, h15, h7, h8, h9, h10, h11, h12, h13, h14, ha, hb]; rfl) | rfl) dX2_ownNumber_49 rfl ?_
    refine j_reti dX2_ownNumber_52 rfl (by first | rfl | exact bi_n _) ?_
    have e : w = 7 := by have := (nI_eq (by omega) (by omega)).mp t7; omega
    subst e
    refine ⟨?_, rfl⟩
    rfl
  ·
    by_cases t8 : nI w = nI 8
    ·
      refine j_tableIn (tgt := 53) (off := 52) dX2_ownNumber_1 (by rw [t8]; decide) (by rw [t8]; decide) (by rw [t8]; rfl) (by decide) ?_
      refine j_aload_n (pc' := 54) dX2_ownNumber_53 rfl rfl ?_
      refine j_getIv (pc' := 57) f_X2_25 (by assumption) (by first | (simp (disch := omega) only [jx_upS, jx_upK, jx_upA, s0, s1, s2, s3, s4, s5, s6, h15, h7, h8, h9, h10, h11, h12, h13, h14, ha, hb]; rfl) | rfl) dX2_ownNumber_54 rfl ?_
      refine j_reti dX2_ownNumber_57 rfl (by first | rfl | exact bi_n _) ?_
      have e : w = 8 := by have := (nI_eq (by omega) (by omega)).mp t8; omega
      subst e
      refine ⟨?_, rfl⟩
      rfl
    ·
      by_cases t9 : nI w = nI 9
      ·
        refine j_tableIn (tgt := 58) (off := 57) dX2_ownNumber_1 (by rw [t9]; decide) (by rw [t9]; decide) (by rw [t9]; rfl) (by decide) ?_
        refine j_aload_n (pc' := 59) dX2_ownNumber_58 rfl rfl ?_
        refine j_getIv (pc' := 62) f_X2_28 (by assumption) (by first | (simp (disch := omega) only [jx_upS, jx_upK, jx_upA, s0, s1, s2, s3, s4, s5, s6, h15, h7, h8, h9, h10, h11, h12, h13, h14, ha, hb]; rfl) | rfl) dX2_ownNumber_59 rfl ?_
        first | refine j_if_eqB' (tgt := 69) (pc' := 65) (by with_reducible rfl) dX2_ownNumber_62 rfl (by decide) (fun c62 => ?_) (fun c62 => ?_) | refine j_if_eqN' (tgt := 69) (pc' := 65) (by with_reducible rfl) (by omega) dX2_ownNumber_62 rfl (by decide) (fun c62 => ?_) (fun c62 => ?_) | refine j_if_eq (tgt := 69) (pc' := 65) dX2_ownNumber_62 rfl (by decide) (fun c62 => ?_) (fun c62 => ?_)
        ·
          refine j_iconst (pc' := 70) (v := nI 0) dX2_ownNumber_69 rfl rfl ?_
          refine j_reti dX2_ownNumber_70 rfl (by first | rfl | exact bi_n _) ?_
          have e : w = 9 := by have := (nI_eq (by omega) (by omega)).mp t9; omega
          subst e
          refine ⟨?_, rfl⟩
          first | rfl | (rw [ha, c62]; rfl)
        ·
          refine j_iconst (pc' := 66) (v := nI 1) dX2_ownNumber_65 rfl rfl ?_
          refine j_goto (tgt := 70) dX2_ownNumber_66 (by decide) ?_
          refine j_reti dX2_ownNumber_70 rfl (by first | rfl | exact bi_n _) ?_
          have e : w = 9 := by have := (nI_eq (by omega) (by omega)).mp t9; omega
          subst e
          refine ⟨?_, rfl⟩
          first | rfl | (rw [ha, c62]; rfl)
      ·
        by_cases t10 : nI w = nI 10
        ·
          refine j_tableIn (tgt := 71) (off := 70) dX2_ownNumber_1 (by rw [t10]; decide) (by rw [t10]; decide) (by rw [t10]; rfl) (by decide) ?_
          refine j_aload_n (pc' := 72) dX2_ownNumber_71 rfl rfl ?_
          refine j_getIv (pc' := 75) f_X2_32 (by assumption) (by first | (simp (disch := omega) only [jx_upS, jx_upK, jx_upA, s0, s1, s2, s3, s4, s5, s6, h15, h7, h8, h9, h10, h11, h12, h13, h14, ha, hb]; rfl) | rfl) dX2_ownNumber_72 rfl ?_
          first | refine j_if_eqB' (tgt := 82) (pc' := 78) (by with_reducible rfl) dX2_ownNumber_75 rfl (by decide) (fun c75 => ?_) (fun c75 => ?_) | refine j_if_eqN' (tgt := 82) (pc' := 78) (by with_reducible rfl) (by omega) dX2_ownNumber_75 rfl (by decide) (fun c75 => ?_) (fun c75 => ?_) | refine j_if_eq (tgt := 82) (pc' := 78) dX2_ownNumber_75 rfl (by decide) (fun c75 => ?_) (fun c75 => ?_)
          ·
            refine j_iconst (pc' := 83) (v := nI 0) dX2_ownNumber_82 rfl rfl ?_
            refine j_reti dX2_ownNumber_83 rfl (by first | rfl | exact bi_n _) ?_
            have e : w = 10 := by have := (nI_eq (by omega) (by omega)).mp t10; omega
            subst e
            refine ⟨?_, rfl⟩
            first | rfl | (rw [hb, c75]; rfl)
          ·
            refine j_iconst (pc' := 79) (v := nI 1) dX2_ownNumber_78 rfl rfl ?_
            refine j_goto (tgt := 83) dX2_ownNumber_79 (by decide) ?_
            refine j_reti dX2_ownNumber_83 rfl (by first | rfl | exact bi_n _) ?_
            have e : w = 10 := by have := (nI_eq (by omega) (by omega)).mp t10; omega
            subst e
            refine ⟨?_, rfl⟩
            first | rfl | (rw [hb, c75]; rfl)
        ·
          by_cases t11 : nI w = nI 11
          ·
            refine j_tableIn (tgt := 84) (off := 83) dX2_ownNumber_1 (by rw [t11]; decide) (by rw [t11]; decide) (by rw [t11]; rfl) (by decide) ?_
            refine j_aload_n (pc' := 85) dX2_ownNumber_84 rfl rfl ?_
            refine j_getIv (pc' := 88) f_X2_35 (by assumption) (by first | (simp (disch := omega) only [jx_upS, jx_upK, jx_upA, s0, s1, s2, s3, s4, s5, s6, h15, h7, h8, h9, h10, h11, h12, h13, h14, ha, hb]; rfl) | rfl) dX2_ownNumber_85 rfl ?_
            refine j_reti dX2_ownNumber_88 rfl (by first | rfl | exact bi_n _) ?_
            have e : w = 11 := by have := (nI_eq (by omega) (by omega)).mp t11; omega
            subst e
            refine ⟨?_, rfl⟩
            rfl
          ·
            by_cases t12 : nI w = nI 12
            ·
              refine j_tableIn (tgt := 89) (off := 88) dX2_ownNumber_1 (by rw [t12]; decide) (by rw [t12]; decide) (by rw [t12]; rfl) (by decide) ?_
              refine j_aload_n (pc' := 90) dX2_ownNumber_89 rfl rfl ?_
              refine j_getIv (pc' := 93) f_X2_38 (by assumption) (by first | (simp (disch := omega) only [jx_upS, jx_upK, jx_upA, s0, s1, s2, s3, s4, s5, s6, h15, h7, h8, h9, h10, h11, h12, h13, h14, ha, hb]; rfl) | rfl) dX2_ownNumber_90 rfl ?_
              refine j_reti dX2_ownNumber_93 rfl (by first | rfl | exact bi_n _) ?_
              have e : w = 12 := by have := (nI_eq (by omega) (by omega)).mp t12; omega
              subst e
              refine ⟨?_, rfl⟩
              rfl
            ·
              by_cases t13 : nI w = nI 13
              ·
                refine j_tableIn (tgt := 94) (off := 93) dX2_ownNumber_1 (by rw [t13]; decide) (by rw [t13]; decide) (by rw [t13]; rfl) (by decide) ?_
                refine j_aload_n (pc' := 95) dX2_ownNumber_94 rfl rfl ?_
                refine j_getIv (pc' := 98) f_X2_41 (by assumption) (by first | (simp (disch := omega) only [jx_upS, jx_upK, jx_upA, s0, s1, s2, s3, s4, s5, s6, h15, h7, h8, h9, h10, h11, h12, h13, h14, ha, hb]; rfl) | rfl) dX2_ownNumber_95 rfl ?_
                refine j_reti dX2_ownNumber_98 rfl (by first | rfl | exact bi_n _) ?_
                have e : w = 13 := by have := (nI_eq (by omega) (by omega)).mp t13; omega
                subst e
                refine ⟨?_, rfl⟩
                rfl
              ·
                by_cases t14 : nI w = nI 14
                ·
                  refine j_tableIn (tgt := 99) (off := 98) dX2_ownNumber_1 (by rw [t14]; decide) (by rw [t14]; decide) (by rw [t14]; rfl) (by decide) ?_
                  refine j_aload_n (pc' := 100) dX2_ownNumber_99 rfl rfl ?_
                  refine j_getIv (pc' := 103) f_X2_44 (by assumption) (by first | (simp (disch := omega) only [jx_upS, jx_upK, jx_upA, s0, s1, s2, s3, s4, s5, s6, h15, h7, h8, h9, h10, h11, h12, h13, h14, ha, hb]; rfl) | rfl) dX2_ownNumber_100 rfl ?_
                  refine j_reti dX2_ownNumber_103 rfl (by first | rfl | exact bi_n _) ?_
                  have e : w = 14 := by have := (nI_eq (by omega) (by omega)).mp t14; omega
                  subst e
                  refine ⟨?_, rfl⟩
                  rfl
                ·
                  refine j_tableOut (tgt := 104) dX2_ownNumber_1 (by
                    have e7 : (nI w).toInt ≠ 7 := fun z => t7 (Int32.toInt_inj.mp (z.trans (by decide)))
                    have e8 : (nI w).toInt ≠ 8 := fun z => t8 (Int32.toInt_inj.mp (z.trans (by decide)))
                    have e9 : (nI w).toInt ≠ 9 := fun z => t9 (Int32.toInt_inj.mp (z.trans (by decide)))
                    have e10 : (nI w).toInt ≠ 10 := fun z => t10 (Int32.toInt_inj.mp (z.trans (by decide)))
                    have e11 : (nI w).toInt ≠ 11 := fun z => t11 (Int32.toInt_inj.mp (z.trans (by decide)))
                    have e12 : (nI w).toInt ≠ 12 := fun z => t12 (Int32.toInt_inj.mp (z.trans (by decide)))
                    have e13 : (nI w).toInt ≠ 13 := fun z => t13 (Int32.toInt_inj.mp (z.trans (by decide)))
                    have e14 : (nI w).toInt ≠ 14 := fun z => t14 (Int32.toInt_inj.mp (z.trans (by decide)))
                    omega) (by decide) ?_
                  have w7 : w ≠ 7 := fun z => t7 (by rw [z])
                  have w8 : w ≠ 8 := fun z => t8 (by rw [z])
                  have w9 : w ≠ 9 := fun z => t9 (by rw [z])
                  have w10 : w ≠ 10 := fun z => t10 (by rw [z])
                  have w11 : w ≠ 11 := fun z => t11 (by rw [z])
                  have w12 : w ≠ 12 := fun z => t12 (by rw [z])
                  have w13 : w ≠ 13 := fun z => t13 (by rw [z])
                  have w14 : w ≠ 14 := fun z => t14 (by rw [z])
                  refine j_iload_n (pc' := 105) dX2_ownNumber_104 rfl rfl ?_
                  refine j_iconst (pc' := 106) (v := nI 0) dX2_ownNumber_105 rfl rfl ?_
                  refine j_bipush (pc' := 108) (v := nI 6) dX2_ownNumber_106 rfl rfl ?_
                  refine j_cSNi (pc' := 111) m_X2_61 (c_X5_isIn _ _ _ _ _ _ _ _ _) rfl rfl ⟨Nat.le_of_ble_eq_true rfl, Nat.le_of_ble_eq_true rfl⟩ ⟨Nat.zero_le _, Nat.zero_le _⟩ (Nat.le_of_ble_eq_true rfl) dX2_ownNumber_108 rfl (fun x1 I1 hq => ?_)
                  obtain ⟨rfl, rfl⟩ := hq
                  first | refine j_if_eqB' (tgt := 123) (pc' := 114) (by with_reducible rfl) dX2_ownNumber_111 rfl (by decide) (fun c111 => ?_) (fun c111 => ?_) | refine j_if_eqN' (tgt := 123) (pc' := 114) (by with_reducible rfl) (by omega) dX2_ownNumber_111 rfl (by decide) (fun c111 => ?_) (fun c111 => ?_) | refine j_if_eq (tgt := 123) (pc' := 114) dX2_ownNumber_111 rfl (by decide) (fun c111 => ?_) (fun c111 => ?_)
                  ·
                    exact absurd (of_decide_eq_false c111) (fun z => z ⟨nI_le (by omega) (by omega), nI_le (by omega) (by omega)⟩)
                  ·
                    refine j_aload_n (pc' := 115) dX2_ownNumber_114 rfl rfl ?_
                    refine j_getR (pc' := 118) f_X2_9 (by assumption) (by assumption) dX2_ownNumber_115 rfl ?_
                    refine j_iload_n (pc' := 119) dX2_ownNumber_118 rfl rfl ?_
                    refine j_ialdv (pc' := 120) (by assumption) rfl (by omega) (by omega) (by first | (simp (disch := omega) only [jx_upS, jx_upK, jx_upA, s0, s1, s2, s3, s4, s5, s6, h15, h7, h8, h9, h10, h11, h12, h13, h14, ha, hb]; rfl) | rfl) dX2_ownNumber_119 rfl ?_
                    refine j_goto (tgt := 126) dX2_ownNumber_120 (by decide) ?_
                    refine j_reti dX2_ownNumber_126 rfl (by first | rfl | exact bi_n _) ?_
                    
                    exact ⟨hst w (by omega), rfl⟩

