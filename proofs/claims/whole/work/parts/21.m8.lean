set_option maxRecDepth 100000 in
set_option maxHeartbeats 4000000 in
theorem c_X6_event {E : jx_E} {l : Launch} {n : Nat} {kd : jx_K} {R : jx_R} {I0 : jx_I} {m : Nat} {F v a p o t c : Nat → Int32} {N : Nat} {x y : Int32} (hs : sMd kd R m) (hN : v 9 = nI N) (hNb : N < 2147483000) : jx_Ci E l yX6_event cX6_event 3 (some .int) 1 n kd R (mI I0 m F v a p o t c) [.ref m, .int x, .int y] (fun r I' => r = fEvent v N x y ∧ I' = mI I0 m F v a p o t c) := by
  obtain ⟨K0, K1, K2, K3, K4, K5, K6, R0, R1, R2, R4, R6, R10⟩ := id hs
  refine jx_C0.ofJ RX6 [some (.ref m), some (.int x), some (.int y)] (by decide) rfl rfl (Nat.le_of_ble_eq_true rfl) rfl ?_
  refine j_iload_n (pc' := 1) dX6_event_0 rfl rfl ?_
  first | refine j_if_ltN' (tgt := 13) (pc' := 4) (by with_reducible rfl) (by omega) dX6_event_1 rfl (by decide) (fun c1 => ?_) (fun c1 => ?_) | refine j_if_lt (tgt := 13) (pc' := 4) dX6_event_1 rfl (by decide) (fun c1 => ?_) (fun c1 => ?_)
  ·
    refine j_sipush (pc' := 16) (v := -20001) dX6_event_13 rfl rfl ?_
    refine j_goto (tgt := 25) dX6_event_16 (by decide) ?_
    refine j_reti dX6_event_25 rfl (by first | rfl | exact bi_n _) ?_
    refine ⟨?_, rfl⟩
    simp (disch := omega) only [fEvent, nI_clamp, c1, reduceIte, Bool.false_eq_true, and_true, and_false, true_and, false_and, not_true_eq_false, not_false_eq_true, decide_true, decide_false, eq_self, or_true, or_false, true_or, false_or, ne_eq]
  ·
    refine j_iload_n (pc' := 5) dX6_event_4 rfl rfl ?_
    refine j_iconst (pc' := 6) (v := nI 0) dX6_event_5 rfl rfl ?_
    refine j_iconst (pc' := 7) (v := nI 2) dX6_event_6 rfl rfl ?_
    refine j_cSi (pc' := 10) m_X6_32 (c_X6_in E l n kd R _ _ _ _) rfl rfl ⟨Nat.le_of_ble_eq_true rfl, Nat.le_of_ble_eq_true rfl⟩ ⟨Nat.zero_le _, Nat.zero_le _⟩ (Nat.le_of_ble_eq_true rfl) dX6_event_7 rfl (fun x1 I1 hq => ?_)
    obtain ⟨rfl, rfl⟩ := hq
    first | refine j_if_neB' (tgt := 19) (pc' := 13) (by with_reducible rfl) dX6_event_10 rfl (by decide) (fun c10 => ?_) (fun c10 => ?_) | refine j_if_neN' (tgt := 19) (pc' := 13) (by with_reducible rfl) (by omega) dX6_event_10 rfl (by decide) (fun c10 => ?_) (fun c10 => ?_) | refine j_if_ne (tgt := 19) (pc' := 13) dX6_event_10 rfl (by decide) (fun c10 => ?_) (fun c10 => ?_)
    ·
      have hx0 := c1
      have hoy := c10
      obtain ⟨i, hi0, rfl⟩ := nI_of c1
      have hi : i < 2147483648 := hi0
      obtain ⟨w, hw0, hw, rfl⟩ := in_nat c10 (by omega) (by omega)
      refine j_aload_n (pc' := 20) dX6_event_19 rfl rfl ?_
      refine j_iload_n (pc' := 21) dX6_event_20 rfl rfl ?_
      refine j_iload_n (pc' := 22) dX6_event_21 rfl rfl ?_
      refine j_cVi (pc' := 25) m_X6_131 (c_X6_eventOf hs hN hNb (by omega) (by omega)) (by assumption) (by decide) rfl rfl rfl ⟨Nat.le_of_ble_eq_true rfl, Nat.le_of_ble_eq_true rfl⟩ ⟨Nat.zero_le _, Nat.zero_le _⟩ (Nat.le_of_ble_eq_true rfl) dX6_event_22 rfl (fun x1 I1 hq => ?_)
      obtain ⟨rfl, rfl⟩ := hq
      refine j_reti dX6_event_25 rfl (by first | rfl | exact bi_n _) ?_
      refine ⟨?_, rfl⟩
      simp (disch := omega) only [fEvent, nI_clamp, c1, c10, hx0, hoy, reduceIte, Bool.false_eq_true, and_true, and_false, true_and, false_and, not_true_eq_false, not_false_eq_true, decide_true, decide_false, eq_self, or_true, or_false, true_or, false_or, ne_eq]
    ·
      refine j_sipush (pc' := 16) (v := -20001) dX6_event_13 rfl rfl ?_
      refine j_goto (tgt := 25) dX6_event_16 (by decide) ?_
      refine j_reti dX6_event_25 rfl (by first | rfl | exact bi_n _) ?_
      refine ⟨?_, rfl⟩
      simp (disch := omega) only [fEvent, nI_clamp, c1, c10, reduceIte, Bool.false_eq_true, and_true, and_false, true_and, false_and, not_true_eq_false, not_false_eq_true, decide_true, decide_false, eq_self, or_true, or_false, true_or, false_or, ne_eq]

def cCount (v : Nat → Int32) (i w : Nat) : Bool :=
  if w < 6 then (if w = 0 then sStand v i else decide (sWhy v i = nI (w - 1))) else if w = 6 then decide (¬ v (176 + 56 * i + 13) ≤ 0) else decide (v (176 + 56 * i + 10) = 0)
def cntF (v : Nat → Int32) (w : Nat) : Nat → Int32
  | 0 => nI 0
  | i + 1 => cntF v w i + (if cCount v i w = true then nI 1 else nI 0)

set_option maxRecDepth 100000 in
set_option maxHeartbeats 4000000 in
theorem c_X6_counts {E : jx_E} {l : Launch} {n : Nat} {kd : jx_K} {R : jx_R} {I0 : jx_I} {m : Nat} {F v a p o t c : Nat → Int32} {i k w : Nat} {rk : Nat → Nat} (hs : sMd kd R m) (h16 : k ≤ 16) (hrk : RK v k rk) (hi : i < k) (hw : w ≤ 7) : jx_Ci E l yX6_counts cX6_counts 3 (some .boolean) 3 n kd R (mI I0 m F v a p o t c) [.ref m, .int (nI i), .int (nI w)] (fun r I' => r = bi (cCount v i w) ∧ I' = mI I0 m F v a p o t c) := by
  obtain ⟨K0, K1, K2, K3, K4, K5, K6, R0, R1, R2, R4, R6, R10⟩ := id hs
  refine jx_C0.ofJ RX6 [some (.ref m), some (.int (nI i)), some (.int (nI w))] (by decide) rfl rfl (Nat.le_of_ble_eq_true rfl) rfl ?_
  refine j_iload_n (pc' := 1) dX6_counts_0 rfl rfl ?_
  refine j_bipush (pc' := 3) (v := nI 6) dX6_counts_1 rfl rfl ?_
  first | refine j_icmp_geN' (tgt := 35) (pc' := 6) (by with_reducible rfl) (by with_reducible rfl) (by omega) (by omega) dX6_counts_3 rfl (by decide) (fun c3 => ?_) (fun c3 => ?_) | refine j_icmp_ge (tgt := 35) (pc' := 6) dX6_counts_3 rfl (by decide) (fun c3 => ?_) (fun c3 => ?_)
  ·
    refine j_iload_n (pc' := 36) dX6_counts_35 rfl rfl ?_
    refine j_bipush (pc' := 38) (v := nI 6) dX6_counts_36 rfl rfl ?_
    first | refine j_icmp_neN' (tgt := 59) (pc' := 41) (by with_reducible rfl) (by with_reducible rfl) (by omega) (by omega) dX6_counts_38 rfl (by decide) (fun c38 => ?_) (fun c38 => ?_) | refine j_icmp_ne (tgt := 59) (pc' := 41) dX6_counts_38 rfl (by decide) (fun c38 => ?_) (fun c38 => ?_)
    ·
      refine j_aload_n (pc' := 60) dX6_counts_59 rfl rfl ?_
      refine j_iload_n (pc' := 61) dX6_counts_60 rfl rfl ?_
      refine j_bipush (pc' := 63) (v := nI 10) dX6_counts_61 rfl rfl ?_
      refine j_cVi (pc' := 66) m_X6_59 (c_X6_of hs (by omega) (by omega)) (by assumption) (by decide) rfl rfl rfl ⟨Nat.le_of_ble_eq_true rfl, Nat.le_of_ble_eq_true rfl⟩ ⟨Nat.zero_le _, Nat.zero_le _⟩ (Nat.le_of_ble_eq_true rfl) dX6_counts_63 rfl (fun x1 I1 hq => ?_)
      obtain ⟨rfl, rfl⟩ := hq
      first | refine j_if_neB' (tgt := 73) (pc' := 69) (by with_reducible rfl) dX6_counts_66 rfl (by decide) (fun c66 => ?_) (fun c66 => ?_) | refine j_if_neN' (tgt := 73) (pc' := 69) (by with_reducible rfl) (by omega) dX6_counts_66 rfl (by decide) (fun c66 => ?_) (fun c66 => ?_) | refine j_if_ne (tgt := 73) (pc' := 69) dX6_counts_66 rfl (by decide) (fun c66 => ?_) (fun c66 => ?_)
      ·
        refine j_iconst (pc' := 74) (v := nI 0) dX6_counts_73 rfl rfl ?_
        refine j_reti dX6_counts_74 rfl (by first | rfl | exact bi_n _) ?_
        refine ⟨?_, rfl⟩
        simp (disch := omega) only [cCount, sStand, if_pos, if_neg]
        first | (refine bi_T ?_; simp only [c3, c38, c66, reduceIte, Bool.false_eq_true, and_true, and_false, true_and, false_and, not_true_eq_false, not_false_eq_true, decide_true, decide_false, eq_self, or_true, or_false, true_or, false_or, ne_eq]; done) | (refine bi_F ?_; simp only [c3, c38, c66, reduceIte, Bool.false_eq_true, and_true, and_false, true_and, false_and, not_true_eq_false, not_false_eq_true, decide_true, decide_false, eq_self, or_true, or_false, true_or, false_or, ne_eq]; done)
      ·
        refine j_iconst (pc' := 70) (v := nI 1) dX6_counts_69 rfl rfl ?_
        refine j_goto (tgt := 74) dX6_counts_70 (by decide) ?_
        refine j_reti dX6_counts_74 rfl (by first | rfl | exact bi_n _) ?_
        refine ⟨?_, rfl⟩
        simp (disch := omega) only [cCount, sStand, if_pos, if_neg]
        first | (refine bi_T ?_; simp only [c3, c38, c66, reduceIte, Bool.false_eq_true, and_true, and_false, true_and, false_and, not_true_eq_false, not_false_eq_true, decide_true, decide_false, eq_self, or_true, or_false, true_or, false_or, ne_eq]; done) | (refine bi_F ?_; simp only [c3, c38, c66, reduceIte, Bool.false_eq_true, and_true, and_false, true_and, false_and, not_true_eq_false, not_false_eq_true, decide_true, decide_false, eq_self, or_true, or_false, true_or, false_or, ne_eq]; done)
    ·
      refine j_aload_n (pc' := 42) dX6_counts_41 rfl rfl ?_
      refine j_iload_n (pc' := 43) dX6_counts_42 rfl rfl ?_
      refine j_bipush (pc' := 45) (v := nI 13) dX6_counts_43 rfl rfl ?_
      refine j_cVi (pc' := 48) m_X6_59 (c_X6_of hs (by omega) (by omega)) (by assumption) (by decide) rfl rfl rfl ⟨Nat.le_of_ble_eq_true rfl, Nat.le_of_ble_eq_true rfl⟩ ⟨Nat.zero_le _, Nat.zero_le _⟩ (Nat.le_of_ble_eq_true rfl) dX6_counts_45 rfl (fun x1 I1 hq => ?_)
      obtain ⟨rfl, rfl⟩ := hq
      first | refine j_if_leN' (tgt := 55) (pc' := 51) (by with_reducible rfl) (by omega) dX6_counts_48 rfl (by decide) (fun c48 => ?_) (fun c48 => ?_) | refine j_if_le (tgt := 55) (pc' := 51) dX6_counts_48 rfl (by decide) (fun c48 => ?_) (fun c48 => ?_)
      ·
        refine j_iconst (pc' := 56) (v := nI 0) dX6_counts_55 rfl rfl ?_
        refine j_goto (tgt := 74) dX6_counts_56 (by decide) ?_
        refine j_reti dX6_counts_74 rfl (by first | rfl | exact bi_n _) ?_
        refine ⟨?_, rfl⟩
        simp (disch := omega) only [cCount, sStand, if_pos, if_neg]
        first | (refine bi_T ?_; simp only [c3, c38, c48, reduceIte, Bool.false_eq_true, and_true, and_false, true_and, false_and, not_true_eq_false, not_false_eq_true, decide_true, decide_false, eq_self, or_true, or_false, true_or, false_or, ne_eq]; done) | (refine bi_F ?_; simp only [c3, c38, c48, reduceIte, Bool.false_eq_true, and_true, and_false, true_and, false_and, not_true_eq_false, not_false_eq_true, decide_true, decide_false, eq_self, or_true, or_false, true_or, false_or, ne_eq]; done)
      ·
        refine j_iconst (pc' := 52) (v := nI 1) dX6_counts_51 rfl rfl ?_
        refine j_goto (tgt := 74) dX6_counts_52 (by decide) ?_
        refine j_reti dX6_counts_74 rfl (by first | rfl | exact bi_n _) ?_
        refine ⟨?_, rfl⟩
        simp (disch := omega) only [cCount, sStand, if_pos, if_neg]
        first | (refine bi_T ?_; simp only [c3, c38, c48, reduceIte, Bool.false_eq_true, and_true, and_false, true_and, false_and, not_true_eq_false, not_false_eq_true, decide_true, decide_false, eq_self, or_true, or_false, true_or, false_or, ne_eq]; done) | (refine bi_F ?_; simp only [c3, c38, c48, reduceIte, Bool.false_eq_true, and_true, and_false, true_and, false_and, not_true_eq_false, not_false_eq_true, decide_true, decide_false, eq_self, or_true, or_false, true_or, false_or, ne_eq]; done)
  ·
    refine j_iload_n (pc' := 7) dX6_counts_6 rfl rfl ?_
    first | refine j_if_neB' (tgt := 18) (pc' := 10) (by with_reducible rfl) dX6_counts_7 rfl (by decide) (fun c7 => ?_) (fun c7 => ?_) | refine j_if_neN' (tgt := 18) (pc' := 10) (by with_reducible rfl) (by omega) dX6_counts_7 rfl (by decide) (fun c7 => ?_) (fun c7 => ?_) | refine j_if_ne (tgt := 18) (pc' := 10) dX6_counts_7 rfl (by decide) (fun c7 => ?_) (fun c7 => ?_)
    ·
      refine j_aload_n (pc' := 19) dX6_counts_18 rfl rfl ?_
      refine j_iload_n (pc' := 20) dX6_counts_19 rfl rfl ?_
      refine j_cVi (pc' := 23) m_X6_84 (c_X6_why hs h16 hrk (by omega)) (by assumption) (by decide) rfl rfl rfl ⟨Nat.le_of_ble_eq_true rfl, Nat.le_of_ble_eq_true rfl⟩ ⟨Nat.zero_le _, Nat.zero_le _⟩ (Nat.le_of_ble_eq_true rfl) dX6_counts_20 rfl (fun x1 I1 hq => ?_)
      obtain ⟨rfl, rfl⟩ := hq
      refine j_iload_n (pc' := 24) dX6_counts_23 rfl rfl ?_
      refine j_iconst (pc' := 25) (v := nI 1) dX6_counts_24 rfl rfl ?_
      first | refine j_isubN' (pc' := 26) (by with_reducible rfl) (by with_reducible rfl) (by omega) dX6_counts_25 rfl ?_ | refine j_isub (pc' := 26) dX6_counts_25 rfl ?_
      first | refine j_icmp_neN' (tgt := 33) (pc' := 29) (by with_reducible rfl) (by with_reducible rfl) (by omega) (by omega) dX6_counts_26 rfl (by decide) (fun c26 => ?_) (fun c26 => ?_) | refine j_icmp_ne (tgt := 33) (pc' := 29) dX6_counts_26 rfl (by decide) (fun c26 => ?_) (fun c26 => ?_)
      ·
        refine j_iconst (pc' := 34) (v := nI 0) dX6_counts_33 rfl rfl ?_
        refine j_reti dX6_counts_34 rfl (by first | rfl | exact bi_n _) ?_
        refine ⟨?_, rfl⟩
        simp (disch := omega) only [cCount, sStand, if_pos, if_neg]
        first | (refine bi_T ?_; simp only [c3, c7, c26, reduceIte, Bool.false_eq_true, and_true, and_false, true_and, false_and, not_true_eq_false, not_false_eq_true, decide_true, decide_false, eq_self, or_true, or_false, true_or, false_or, ne_eq]; done) | (refine bi_F ?_; simp only [c3, c7, c26, reduceIte, Bool.false_eq_true, and_true, and_false, true_and, false_and, not_true_eq_false, not_false_eq_true, decide_true, decide_false, eq_self, or_true, or_false, true_or, false_or, ne_eq]; done)
      ·
        refine j_iconst (pc' := 30) (v := nI 1) dX6_counts_29 rfl rfl ?_
        refine j_goto (tgt := 34) dX6_counts_30 (by decide) ?_
        refine j_reti dX6_counts_34 rfl (by first | rfl | exact bi_n _) ?_
        refine ⟨?_, rfl⟩
        simp (disch := omega) only [cCount, sStand, if_pos, if_neg]
        first | (refine bi_T ?_; simp only [c3, c7, c26, reduceIte, Bool.false_eq_true, and_true, and_false, true_and, false_and, not_true_eq_false, not_false_eq_true, decide_true, decide_false, eq_self, or_true, or_false, true_or, false_or, ne_eq]; done) | (refine bi_F ?_; simp only [c3, c7, c26, reduceIte, Bool.false_eq_true, and_true, and_false, true_and, false_and, not_true_eq_false, not_false_eq_true, decide_true, decide_false, eq_self, or_true, or_false, true_or, false_or, ne_eq]; done)
    ·
      refine j_aload_n (pc' := 11) dX6_counts_10 rfl rfl ?_
      refine j_iload_n (pc' := 12) dX6_counts_11 rfl rfl ?_
      refine j_cVi (pc' := 15) m_X6_78 (c_X6_stands hs (by omega)) (by assumption) (by decide) rfl rfl rfl ⟨Nat.le_of_ble_eq_true rfl, Nat.le_of_ble_eq_true rfl⟩ ⟨Nat.zero_le _, Nat.zero_le _⟩ (Nat.le_of_ble_eq_true rfl) dX6_counts_12 rfl (fun x1 I1 hq => ?_)
      obtain ⟨rfl, rfl⟩ := hq
      refine j_goto (tgt := 34) dX6_counts_15 (by decide) ?_
      refine j_reti dX6_counts_34 rfl (by first | rfl | exact bi_n _) ?_
      refine ⟨?_, rfl⟩
      simp (disch := omega) only [cCount, sStand, if_pos, if_neg]

set_option maxRecDepth 100000 in
set_option maxHeartbeats 4000000 in
theorem lp_X6_count {E : jx_E} {l : Launch} {n : Nat} {kd : jx_K} {R : jx_R} {I0 : jx_I} {m : Nat} {F v a p o t c : Nat → Int32} {k w : Nat} {rk : Nat → Nat} (hs : sMd kd R m) (hk : v 0 = nI k) (h16 : k ≤ 16) (hrk : RK v k rk) (hw : w ≤ 7) : ∀ (z i : Nat), i ≤ k → z + i = k + 1 → jx_J E l cX6_count 4 (some .int) RX6 false (jx_rm 4) 0 0 (jx_Q0 n kd R (jx_Pi (fun r I' => r = cntF v w k ∧ I' = mI I0 m F v a p o t c))) 0 0 n kd R (mI I0 m F v a p o t c) 18 [some (.ref m), some (.int (nI w)), some (.int (cntF v w i)), some (.int (nI i))] [] := by
  obtain ⟨K0, K1, K2, K3, K4, K5, K6, R0, R1, R2, R4, R6, R10⟩ := id hs
  intro z
  induction z with
  | zero => intro i hi hz; omega
  | succ z ih =>
    intro i hi hz
    refine j_iload_n (pc' := 19) dX6_count_18 rfl rfl ?_
    refine j_aload_n (pc' := 20) dX6_count_19 rfl rfl ?_
    refine j_getR (pc' := 23) f_X6_7 (by assumption) (by assumption) dX6_count_20 rfl ?_
    refine j_iconst (pc' := 24) (v := nI 0) dX6_count_23 rfl rfl ?_
    refine j_ialdv (pc' := 25) (by assumption) rfl (by omega) (by omega) (by first | (simp (disch := omega) only [jx_upS, jx_upK, jx_upA, mI_0, mI_1, mI_2, mI_3, mI_4, mI_5, mI_6, pk_us, pk_un, hk]; rfl) | rfl) dX6_count_24 rfl ?_
    first | refine j_icmp_geN' (tgt := 51) (pc' := 28) (by with_reducible rfl) (by with_reducible rfl) (by omega) (by omega) dX6_count_25 rfl (by decide) (fun c25 => ?_) (fun c25 => ?_) | refine j_icmp_ge (tgt := 51) (pc' := 28) dX6_count_25 rfl (by decide) (fun c25 => ?_) (fun c25 => ?_)
    ·
      refine j_iload_n (pc' := 52) dX6_count_51 rfl rfl ?_
      refine j_reti dX6_count_52 rfl (by first | rfl | exact bi_n _) ?_
      have : i = k := by omega
      subst this
      exact ⟨rfl, rfl⟩
    ·
      refine j_iload_n (pc' := 29) dX6_count_28 rfl rfl ?_
      refine j_aload_n (pc' := 30) dX6_count_29 rfl rfl ?_
      refine j_iload_n (pc' := 31) dX6_count_30 rfl rfl ?_
      refine j_iload_n (pc' := 32) dX6_count_31 rfl rfl ?_
      refine j_cVi (pc' := 35) m_X6_128 (c_X6_counts hs h16 hrk (by omega) (by omega)) (by assumption) (by decide) rfl rfl rfl ⟨Nat.le_of_ble_eq_true rfl, Nat.le_of_ble_eq_true rfl⟩ ⟨Nat.zero_le _, Nat.zero_le _⟩ (Nat.le_of_ble_eq_true rfl) dX6_count_32 rfl (fun x1 I1 hq => ?_)
      obtain ⟨rfl, rfl⟩ := hq
      first | refine j_if_eqB' (tgt := 42) (pc' := 38) (by with_reducible rfl) dX6_count_35 rfl (by decide) (fun c35 => ?_) (fun c35 => ?_) | refine j_if_eqN' (tgt := 42) (pc' := 38) (by with_reducible rfl) (by omega) dX6_count_35 rfl (by decide) (fun c35 => ?_) (fun c35 => ?_) | refine j_if_eq (tgt := 42) (pc' := 38) dX6_count_35 rfl (by decide) (fun c35 => ?_) (fun c35 => ?_)
      ·
        skip
        refine j_iconst (pc' := 43) (v := nI 0) dX6_count_42 rfl rfl ?_
        refine j_iadd (pc' := 44) dX6_count_43 rfl ?_
        refine j_istore_n (pc' := 45) (lv' := [_, _, _, _]) dX6_count_44 rfl (by decide) rfl ?_
        first | refine j_iincN (pc' := 48) (lv' := [_, _, _, _]) dX6_count_45 rfl rfl (by decide) rfl ?_ | refine j_iinc (pc' := 48) (lv' := [_, _, _, _]) dX6_count_45 rfl rfl rfl (by decide) rfl ?_
        refine j_goto (tgt := 18) dX6_count_48 (by decide) ?_
        have e : cntF v w (i + 1) = cntF v w i + nI 0 := by rw [cntF, if_neg (by rw [c35]; decide)]
        rw [← e]
        exact ih (i + 1) (by omega) (by omega)
      ·
        skip
        refine j_iconst (pc' := 39) (v := nI 1) dX6_count_38 rfl rfl ?_
        refine j_goto (tgt := 43) dX6_count_39 (by decide) ?_
        refine j_iadd (pc' := 44) dX6_count_43 rfl ?_
        refine j_istore_n (pc' := 45) (lv' := [_, _, _, _]) dX6_count_44 rfl (by decide) rfl ?_
        first | refine j_iincN (pc' := 48) (lv' := [_, _, _, _]) dX6_count_45 rfl rfl (by decide) rfl ?_ | refine j_iinc (pc' := 48) (lv' := [_, _, _, _]) dX6_count_45 rfl rfl rfl (by decide) rfl ?_
        refine j_goto (tgt := 18) dX6_count_48 (by decide) ?_
        have e : cntF v w (i + 1) = cntF v w i + nI 1 := by rw [cntF, if_pos c35]
        rw [← e]
        exact ih (i + 1) (by omega) (by omega)
def fCount (v : Nat → Int32) (k : Nat) (x : Int32) : Int32 := if decide (nI 0 ≤ x ∧ x ≤ nI 7) = true then cntF v x.toNatClampNeg k else -20001

set_option maxRecDepth 100000 in
set_option maxHeartbeats 4000000 in
theorem ct_post_i {E : jx_E} {l : Launch} {cd : ByteArray} {nL : Nat} {ret : Option FieldType} {own : String} {Rm : Room} {n : Nat} {kd : jx_K} {R : jx_R} {I : jx_I} {pc : Nat} {lv : List (Option Value)} {st : List Value} {P P' : Int32 → jx_I → Prop} (h : ∀ r I', P r I' → P' r I') (k : jx_J E l cd nL ret own false Rm 0 0 (jx_Q0 n kd R (jx_Pi P)) 0 0 n kd R I pc lv st) : jx_J E l cd nL ret own false Rm 0 0 (jx_Q0 n kd R (jx_Pi P')) 0 0 n kd R I pc lv st := by
  intro p e s m args below meth c Z X hZ
  exact k p e s m args below meth c Z X (fun v n' kd' R' I' H' locs' pc' ls' hq => hZ v n' kd' R' I' H' locs' pc' ls' (by
    obtain ⟨h1, h2, h3, x, h4, h5⟩ := hq
    exact ⟨h1, h2, h3, x, h4, h x I' h5⟩))
set_option maxRecDepth 100000 in
set_option maxHeartbeats 4000000 in
theorem c_X6_count {E : jx_E} {l : Launch} {n : Nat} {kd : jx_K} {R : jx_R} {I0 : jx_I} {m : Nat} {F v a p o t c : Nat → Int32} {k : Nat} {x : Int32} {rk : Nat → Nat} (hs : sMd kd R m) (hk : v 0 = nI k) (h16 : k ≤ 16) (hrk : RK v k rk) : jx_Ci E l yX6_count cX6_count 4 (some .int) 4 n kd R (mI I0 m F v a p o t c) [.ref m, .int x] (fun r I' => r = fCount v k x ∧ I' = mI I0 m F v a p o t c) := by
  obtain ⟨K0, K1, K2, K3, K4, K5, K6, R0, R1, R2, R4, R6, R10⟩ := id hs
  refine jx_C0.ofJ RX6 [some (.ref m), some (.int x), none, none] (by decide) rfl rfl (Nat.le_of_ble_eq_true rfl) rfl ?_
  refine j_iload_n (pc' := 1) dX6_count_0 rfl rfl ?_
  refine j_iconst (pc' := 2) (v := nI 0) dX6_count_1 rfl rfl ?_
  refine j_bipush (pc' := 4) (v := nI 7) dX6_count_2 rfl rfl ?_
  refine j_cSi (pc' := 7) m_X6_32 (c_X6_in E l n kd R _ _ _ _) rfl rfl ⟨Nat.le_of_ble_eq_true rfl, Nat.le_of_ble_eq_true rfl⟩ ⟨Nat.zero_le _, Nat.zero_le _⟩ (Nat.le_of_ble_eq_true rfl) dX6_count_4 rfl (fun x1 I1 hq => ?_)
  obtain ⟨rfl, rfl⟩ := hq
  first | refine j_if_neB' (tgt := 14) (pc' := 10) (by with_reducible rfl) dX6_count_7 rfl (by decide) (fun c7 => ?_) (fun c7 => ?_) | refine j_if_neN' (tgt := 14) (pc' := 10) (by with_reducible rfl) (by omega) dX6_count_7 rfl (by decide) (fun c7 => ?_) (fun c7 => ?_) | refine j_if_ne (tgt := 14) (pc' := 10) dX6_count_7 rfl (by decide) (fun c7 => ?_) (fun c7 => ?_)
  ·
    have hoy := c7
    obtain ⟨w, hw0, hw, rfl⟩ := in_nat c7 (by omega) (by omega)
    refine j_iconst (pc' := 15) (v := nI 0) dX6_count_14 rfl rfl ?_
    refine j_istore_n (pc' := 16) (lv' := [_, _, _, _]) dX6_count_15 rfl (by decide) rfl ?_
    refine j_iconst (pc' := 17) (v := nI 0) dX6_count_16 rfl rfl ?_
    refine j_istore_n (pc' := 18) (lv' := [_, _, _, _]) dX6_count_17 rfl (by decide) rfl ?_
    refine ct_post_i (P := fun r I' => r = cntF v w k ∧ I' = mI I0 m F v a p o t c) ?_ (lp_X6_count hs hk h16 hrk hw (k + 1) 0 (by omega) (by omega))
    intro r I' hq
    obtain ⟨rfl, rfl⟩ := hq
    exact ⟨by rw [fCount, if_pos hoy, nI_clamp (by omega)], rfl⟩
  ·
    refine j_sipush (pc' := 13) (v := -20001) dX6_count_10 rfl rfl ?_
    refine j_reti dX6_count_13 rfl (by first | rfl | exact bi_n _) ?_
    refine ⟨?_, rfl⟩
    simp (disch := omega) only [fCount, nI_clamp, c7, reduceIte, Bool.false_eq_true, and_true, and_false, true_and, false_and, not_true_eq_false, not_false_eq_true, decide_true, decide_false, eq_self, or_true, or_false, true_or, false_or, ne_eq]

