def rdS (t : Nat → Int32) (L : Nat) : Nat → Nat → Nat → (Nat → Int32) → Bool × Nat × Nat × (Nat → Int32)
  | 0, A, D, c => (false, A, D, c)
  | z + 1, A, D, c =>
    if (rdC t c L A D).1 = true then
      if tkB t L (rdC t c L A D).2.1 (nI 59) = true then rdS t L z (tkA t L (rdC t c L A D).2.1 (nI 59)) (D + 1) (rdC t c L A D).2.2
      else (decide (tkA t L (rdC t c L A D).2.1 (nI 59) = L), tkA t L (rdC t c L A D).2.1 (nI 59), D + 1, (rdC t c L A D).2.2)
    else (false, (rdC t c L A D).2.1, D, (rdC t c L A D).2.2)
theorem u89_a {F : Nat → Int32} {D : Nat} {x : Int32} (hD : F 9 = nI D) : upd F 8 x = upd (upd F 8 x) 9 (nI D) := by
  funext j
  unfold upd
  by_cases h : j = 9
  · subst h; simp [hD]
  · simp [h]
theorem u89_b {F : Nat → Int32} {x y z : Int32} : upd (upd (upd F 8 x) 9 y) 8 z = upd (upd F 8 z) 9 y := by
  funext j
  unfold upd
  by_cases h : j = 9
  · subst h; simp
  · by_cases h8 : j = 8
    · subst h8; simp
    · simp [h, h8]
theorem u89_c {F : Nat → Int32} {x y z w : Int32} : upd (upd (upd (upd F 8 x) 9 y) 8 z) 9 w = upd (upd F 8 z) 9 w := by rw [u89_b, upd_upd]
theorem u89_d {F : Nat → Int32} {x y z u w : Int32} : upd (upd (upd (upd (upd F 8 x) 9 y) 8 z) 8 u) 9 w = upd (upd F 8 u) 9 w := by rw [upd_upd, u89_b, upd_upd]
theorem rdS_ok {t : Nat → Int32} {L : Nat} (h8 : L ≤ 80) : ∀ (z A D : Nat) (c : Nat → Int32), A ≤ L → 6 * D ≤ A → (rdS t L z A D c).2.1 ≤ L ∧ (rdS t L z A D c).2.2.1 ≤ 14 := by
  intro z
  induction z with
  | zero => intro A D c hA hD; exact ⟨hA, by rw [rdS]; dsimp only; omega⟩
  | succ z ih =>
    intro A D c hA hD
    have hr := rdC_le (t := t) (c := c) (D := D) hA
    rw [rdS]
    split
    · rename_i h1
      have hr1 := hr.2 h1
      have ht := tkA_le (t := t) (x := nI 59) hr.1 (by decide)
      split
      · rename_i h2
        have : tkA t L (rdC t c L A D).2.1 (nI 59) = (rdC t c L A D).2.1 + 1 := by rw [tkA, if_pos h2]
        exact ih _ _ _ ht (by omega)
      · exact ⟨ht, by dsimp only; omega⟩
    · exact ⟨hr.1, by dsimp only; omega⟩

set_option maxRecDepth 100000 in
set_option maxHeartbeats 4000000 in
theorem lp_X6_reads {E : jx_E} {l : Launch} {n : Nat} {kd : jx_K} {R : jx_R} {I0 : jx_I} {m : Nat} {F v a p o t c : Nat → Int32} {L : Nat} (hs : sMd kd R m) (hL8 : L ≤ 80) : ∀ (z A D : Nat) (F c : Nat → Int32) (x : Int32), z + D = 15 → F 7 = nI L → F 8 = nI A → F 9 = nI D → A ≤ L → 6 * D ≤ A → jx_J E l cX6_reads 2 (some .boolean) RX6 false (jx_rm 5) 0 0 (jx_Q0 n kd R (jx_Pi (fun r I' => r = bi (rdS t L (z) A D c).1 ∧ I' = mI I0 m (upd (upd F 8 (nI (rdS t L (z) A D c).2.1)) 9 (nI (rdS t L (z) A D c).2.2.1)) v a p o t ((rdS t L (z) A D c).2.2.2)))) 0 0 n kd R (mI I0 m F v a p o t c) 16 [some (.ref m), some (.int x)] [] := by
  obtain ⟨K0, K1, K2, K3, K4, K5, K6, R0, R1, R2, R4, R6, R10⟩ := id hs
  intro z
  induction z with
  | zero => intro A D F c x hz hL hA0 hD hA hDA; omega
  | succ z ih =>
    intro A D F c x hz hL hA0 hD hA hDA
    refine j_aload_n (pc' := 17) dX6_reads_16 rfl rfl ?_
    refine j_cVi (pc' := 20) m_X6_162 (c_X6_readsCommand hs hL hL8 hA0 hA hD (by omega)) (by assumption) (by decide) rfl rfl rfl ⟨Nat.le_of_ble_eq_true rfl, Nat.le_of_ble_eq_true rfl⟩ ⟨Nat.zero_le _, Nat.zero_le _⟩ (Nat.le_of_ble_eq_true rfl) dX6_reads_17 rfl (fun x1 I1 hq => ?_)
    obtain ⟨rfl, rfl⟩ := hq
    have hr := rdC_le (t := t) (c := c) (D := D) hA
    first | refine j_if_neB' (tgt := 25) (pc' := 23) (by with_reducible rfl) dX6_reads_20 rfl (by decide) (fun c20 => ?_) (fun c20 => ?_) | refine j_if_neN' (tgt := 25) (pc' := 23) (by with_reducible rfl) (by omega) dX6_reads_20 rfl (by decide) (fun c20 => ?_) (fun c20 => ?_) | refine j_if_ne (tgt := 25) (pc' := 23) dX6_reads_20 rfl (by decide) (fun c20 => ?_) (fun c20 => ?_)
    ·
      refine j_aload_n (pc' := 26) dX6_reads_25 rfl rfl ?_
      refine j_dup (pc' := 27) dX6_reads_26 rfl rfl ?_
      refine j_getIv (pc' := 30) f_X6_149 (by assumption) (by first | (simp (disch := omega) only [jx_upS, jx_upK, jx_upA, mI_0, mI_1, mI_2, mI_3, mI_4, mI_5, mI_6, pk_us, pk_un, hD, hL]; rfl) | rfl) dX6_reads_27 rfl ?_
      refine j_iconst (pc' := 31) (v := nI 1) dX6_reads_30 rfl rfl ?_
      first | refine j_iaddN' (pc' := 32) (by with_reducible rfl) (by with_reducible rfl) dX6_reads_31 rfl ?_ | refine j_iadd (pc' := 32) dX6_reads_31 rfl ?_
      refine j_putI (pc' := 35) f_X6_149 (by assumption) rfl rfl dX6_reads_32 rfl ?_
      refine j_eqI mW_0 ?_
      refine j_aload_n (pc' := 36) dX6_reads_35 rfl rfl ?_
      refine j_bipush (pc' := 38) (v := nI 59) dX6_reads_36 rfl rfl ?_
      refine j_cVi (pc' := 41) m_X6_146 (c_X6_takes hs (by first | exact hL | (simp (disch := omega) only [pk_un]; exact hL)) hL8 (by first | exact hA0 | exact pk_us | exact (pk_un (by decide)).trans pk_us) hr.1) (by assumption) (by decide) rfl rfl rfl ⟨Nat.le_of_ble_eq_true rfl, Nat.le_of_ble_eq_true rfl⟩ ⟨Nat.zero_le _, Nat.zero_le _⟩ (Nat.le_of_ble_eq_true rfl) dX6_reads_38 rfl (fun x1 I1 hq => ?_)
      obtain ⟨rfl, rfl⟩ := hq
      have ht := tkA_le (t := t) (x := nI 59) hr.1 (by decide)
      refine j_istore_n (pc' := 42) (lv' := [_, _]) dX6_reads_41 rfl (by decide) rfl ?_
      refine j_goto (tgt := 12) dX6_reads_42 (by decide) ?_
      refine j_iload_n (pc' := 13) dX6_reads_12 rfl rfl ?_
      first | refine j_if_eqB' (tgt := 45) (pc' := 16) (by with_reducible rfl) dX6_reads_13 rfl (by decide) (fun c13 => ?_) (fun c13 => ?_) | refine j_if_eqN' (tgt := 45) (pc' := 16) (by with_reducible rfl) (by omega) dX6_reads_13 rfl (by decide) (fun c13 => ?_) (fun c13 => ?_) | refine j_if_eq (tgt := 45) (pc' := 16) dX6_reads_13 rfl (by decide) (fun c13 => ?_) (fun c13 => ?_)
      ·
        refine j_aload_n (pc' := 46) dX6_reads_45 rfl rfl ?_
        refine j_getIv (pc' := 49) f_X6_140 (by assumption) (by first | (simp (disch := omega) only [jx_upS, jx_upK, jx_upA, mI_0, mI_1, mI_2, mI_3, mI_4, mI_5, mI_6, pk_us, pk_un, hD, hL]; rfl) | rfl) dX6_reads_46 rfl ?_
        refine j_aload_n (pc' := 50) dX6_reads_49 rfl rfl ?_
        refine j_getIv (pc' := 53) f_X6_137 (by assumption) (by first | (simp (disch := omega) only [jx_upS, jx_upK, jx_upA, mI_0, mI_1, mI_2, mI_3, mI_4, mI_5, mI_6, pk_us, pk_un, hD, hL]; rfl) | rfl) dX6_reads_50 rfl ?_
        first | refine j_icmp_neN' (tgt := 60) (pc' := 56) (by with_reducible rfl) (by with_reducible rfl) (by omega) (by omega) dX6_reads_53 rfl (by decide) (fun c53 => ?_) (fun c53 => ?_) | refine j_icmp_ne (tgt := 60) (pc' := 56) dX6_reads_53 rfl (by decide) (fun c53 => ?_) (fun c53 => ?_)
        ·
          refine j_iconst (pc' := 61) (v := nI 0) dX6_reads_60 rfl rfl ?_
          refine j_reti dX6_reads_61 rfl (by first | rfl | exact bi_n _) ?_
          rw [rdS, if_pos c20, if_neg (by rw [c13]; decide), u89_b]
          exact ⟨bi_F (decide_eq_false c53), rfl⟩
        ·
          skip
          refine j_iconst (pc' := 57) (v := nI 1) dX6_reads_56 rfl rfl ?_
          refine j_goto (tgt := 61) dX6_reads_57 (by decide) ?_
          refine j_reti dX6_reads_61 rfl (by first | rfl | exact bi_n _) ?_
          rw [rdS, if_pos c20, if_neg (by rw [c13]; decide), u89_b]
          exact ⟨bi_T (decide_eq_true c53), rfl⟩
      ·
        have hh := rdC_le (t := t) (c := c) (D := D) hA
        have h5 := hr.2 c20
        have e : tkA t L (rdC t c L A D).2.1 (nI 59) = (rdC t c L A D).2.1 + 1 := by rw [tkA, if_pos c13]
        refine ct_post_i (fun r I' hq => ?_) (ih (tkA t L (rdC t c L A D).2.1 (nI 59)) (D + 1) (upd (upd (upd F 8 (nI (rdC t c L A D).2.1)) 9 (nI (D + 1))) 8 (nI (tkA t L (rdC t c L A D).2.1 (nI 59)))) _ _ (by omega) (by simp (disch := omega) only [pk_un]; exact hL) pk_us ((pk_un (by decide)).trans pk_us) ht (by omega))
        rw [rdS, if_pos c20, if_pos c13]
        rw [u89_d] at hq
        exact hq
    ·
      refine j_iconst (pc' := 24) (v := nI 0) dX6_reads_23 rfl rfl ?_
      refine j_reti dX6_reads_24 rfl (by first | rfl | exact bi_n _) ?_
      rw [rdS, if_neg (by rw [c20]; decide)]
      exact ⟨rfl, by rw [← u89_a hD]⟩
set_option maxRecDepth 100000 in
set_option maxHeartbeats 4000000 in
theorem c_X6_reads {E : jx_E} {l : Launch} {n : Nat} {kd : jx_K} {R : jx_R} {I0 : jx_I} {m : Nat} {F v a p o t c : Nat → Int32} {L : Nat} (hs : sMd kd R m) (hL : F 7 = nI L) (hL8 : L ≤ 80) : jx_Ci E l yX6_reads cX6_reads 2 (some .boolean) 5 n kd R (mI I0 m F v a p o t c) [.ref m] (fun r I' => r = bi (rdS t L 15 0 0 c).1 ∧ I' = mI I0 m (upd (upd F 8 (nI (rdS t L 15 0 0 c).2.1)) 9 (nI (rdS t L 15 0 0 c).2.2.1)) v a p o t ((rdS t L 15 0 0 c).2.2.2)) := by
  obtain ⟨K0, K1, K2, K3, K4, K5, K6, R0, R1, R2, R4, R6, R10⟩ := id hs
  refine jx_C0.ofJ RX6 [some (.ref m), none] (by decide) rfl rfl (Nat.le_of_ble_eq_true rfl) rfl ?_
  refine j_aload_n (pc' := 1) dX6_reads_0 rfl rfl ?_
  refine j_iconst (pc' := 2) (v := nI 0) dX6_reads_1 rfl rfl ?_
  refine j_putI (pc' := 5) f_X6_140 (by assumption) rfl rfl dX6_reads_2 rfl ?_
  refine j_eqI mW_0 ?_
  refine j_aload_n (pc' := 6) dX6_reads_5 rfl rfl ?_
  refine j_iconst (pc' := 7) (v := nI 0) dX6_reads_6 rfl rfl ?_
  refine j_putI (pc' := 10) f_X6_149 (by assumption) rfl rfl dX6_reads_7 rfl ?_
  refine j_eqI mW_0 ?_
  refine j_iconst (pc' := 11) (v := nI 1) dX6_reads_10 rfl rfl ?_
  refine j_istore_n (pc' := 12) (lv' := [_, _]) dX6_reads_11 rfl (by decide) rfl ?_
  refine j_iload_n (pc' := 13) dX6_reads_12 rfl rfl ?_
  first | refine j_if_eqB' (tgt := 45) (pc' := 16) (by with_reducible rfl) dX6_reads_13 rfl (by decide) (fun c13 => ?_) (fun c13 => ?_) | refine j_if_eqN' (tgt := 45) (pc' := 16) (by with_reducible rfl) (by omega) dX6_reads_13 rfl (by decide) (fun c13 => ?_) (fun c13 => ?_) | refine j_if_eq (tgt := 45) (pc' := 16) dX6_reads_13 rfl (by decide) (fun c13 => ?_) (fun c13 => ?_)
  ·
    exact absurd c13 (by decide)
  ·
    refine ct_post_i (fun r I' hq => ?_) (lp_X6_reads (F := F) (c := c) hs hL8 15 0 0 (upd (upd F 8 (nI 0)) 9 (nI 0)) c (nI 1) rfl (by simp (disch := omega) only [pk_un]; exact hL) ((pk_un (by decide)).trans pk_us) pk_us (Nat.zero_le _) (Nat.zero_le _))
    rw [u89_c] at hq
    exact hq

/-- the command j of the read ones, on a row -/
def dsF (v c : Nat → Int32) (k T S j : Nat) : Int32 × (Nat → Int32) :=
  if c (3 * j) = nI 0 then fVal v (c (3 * j + 1)) (c (3 * j + 2)) else if c (3 * j) = nI 1 then fAck v (c (3 * j + 1)) else if c (3 * j) = nI 2 then fShv v (c (3 * j + 1)) (c (3 * j + 2)) else if c (3 * j) = nI 3 then fTks v k T S (c (3 * j + 1)) else fMod v (c (3 * j + 1))
theorem VI.does {v c : Nat → Int32} {k T S N j : Nat} (h : VI v k T S N) (hb : N + 5000 < 2147483000) : ∃ T' N', N ≤ N' ∧ N' ≤ N + 3300 ∧ VI (dsF v c k T S j).2 k T' S N' := by
  unfold dsF
  split
  · exact ⟨T, N, by omega, by omega, h.val⟩
  · split
    · obtain ⟨N', a, b, d⟩ := h.ack (x := c (3 * j + 1)) (by omega)
      exact ⟨T, N', by omega, by omega, d⟩
    · split
      · obtain ⟨N', a, b, d⟩ := h.shv (x := c (3 * j + 1)) (y := c (3 * j + 2)) (by omega)
        exact ⟨T, N', by omega, by omega, d⟩
      · split
        · exact h.tks hb
        · exact ⟨T, N, by omega, by omega, h.mod⟩

set_option maxRecDepth 100000 in
set_option maxHeartbeats 4000000 in
theorem c_X6_does {E : jx_E} {l : Launch} {n : Nat} {kd : jx_K} {R : jx_R} {I0 : jx_I} {m : Nat} {F v a p o t c : Nat → Int32} {k T S N j : Nat} (hs : sMd kd R m) (hv : VI v k T S N) (hNb : N + 5000 < 2147483000) (hj : j ≤ 20) : jx_Ci E l yX6_does cX6_does 4 (some .int) 5 n kd R (mI I0 m F v a p o t c) [.ref m, .int (nI j)] (fun r I' => r = (dsF v c k T S j).1 ∧ I' = mI I0 m F ((dsF v c k T S j).2) a p o t c) := by
  obtain ⟨K0, K1, K2, K3, K4, K5, K6, R0, R1, R2, R4, R6, R10⟩ := id hs
  refine jx_C0.ofJ RX6 [some (.ref m), some (.int (nI j)), none, none] (by decide) rfl rfl (Nat.le_of_ble_eq_true rfl) rfl ?_
  refine j_aload_n (pc' := 1) dX6_does_0 rfl rfl ?_
  refine j_getR (pc' := 4) f_X6_25 (by assumption) (by assumption) dX6_does_1 rfl ?_
  refine j_iconst (pc' := 5) (v := nI 3) dX6_does_4 rfl rfl ?_
  refine j_iload_n (pc' := 6) dX6_does_5 rfl rfl ?_
  first | refine j_imulN' (pc' := 7) (by with_reducible rfl) (by with_reducible rfl) dX6_does_6 rfl ?_ | refine j_imul (pc' := 7) dX6_does_6 rfl ?_
  refine j_iconst (pc' := 8) (v := nI 1) dX6_does_7 rfl rfl ?_
  first | refine j_iaddN' (pc' := 9) (by with_reducible rfl) (by with_reducible rfl) dX6_does_8 rfl ?_ | refine j_iadd (pc' := 9) dX6_does_8 rfl ?_
  refine j_ialdv (pc' := 10) (by assumption) rfl (by omega) (by omega) (by first | (simp (disch := omega) only [jx_upS, jx_upK, jx_upA, mI_0, mI_1, mI_2, mI_3, mI_4, mI_5, mI_6, pk_us, pk_un]; rfl) | rfl) dX6_does_9 rfl ?_
  refine j_istore_n (pc' := 11) (lv' := [_, _, _, _]) dX6_does_10 rfl (by decide) rfl ?_
  refine j_aload_n (pc' := 12) dX6_does_11 rfl rfl ?_
  refine j_getR (pc' := 15) f_X6_25 (by assumption) (by assumption) dX6_does_12 rfl ?_
  refine j_iconst (pc' := 16) (v := nI 3) dX6_does_15 rfl rfl ?_
  refine j_iload_n (pc' := 17) dX6_does_16 rfl rfl ?_
  first | refine j_imulN' (pc' := 18) (by with_reducible rfl) (by with_reducible rfl) dX6_does_17 rfl ?_ | refine j_imul (pc' := 18) dX6_does_17 rfl ?_
  refine j_iconst (pc' := 19) (v := nI 2) dX6_does_18 rfl rfl ?_
  first | refine j_iaddN' (pc' := 20) (by with_reducible rfl) (by with_reducible rfl) dX6_does_19 rfl ?_ | refine j_iadd (pc' := 20) dX6_does_19 rfl ?_
  refine j_ialdv (pc' := 21) (by assumption) rfl (by omega) (by omega) (by first | (simp (disch := omega) only [jx_upS, jx_upK, jx_upA, mI_0, mI_1, mI_2, mI_3, mI_4, mI_5, mI_6, pk_us, pk_un]; rfl) | rfl) dX6_does_20 rfl ?_
  refine j_istore_n (pc' := 22) (lv' := [_, _, _, _]) dX6_does_21 rfl (by decide) rfl ?_
  refine j_aload_n (pc' := 23) dX6_does_22 rfl rfl ?_
  refine j_getR (pc' := 26) f_X6_25 (by assumption) (by assumption) dX6_does_23 rfl ?_
  refine j_iconst (pc' := 27) (v := nI 3) dX6_does_26 rfl rfl ?_
  refine j_iload_n (pc' := 28) dX6_does_27 rfl rfl ?_
  first | refine j_imulN' (pc' := 29) (by with_reducible rfl) (by with_reducible rfl) dX6_does_28 rfl ?_ | refine j_imul (pc' := 29) dX6_does_28 rfl ?_
  refine j_ialdv (pc' := 30) (by assumption) rfl (by omega) (by omega) (by first | (simp (disch := omega) only [jx_upS, jx_upK, jx_upA, mI_0, mI_1, mI_2, mI_3, mI_4, mI_5, mI_6, pk_us, pk_un]; rfl) | rfl) dX6_does_29 rfl ?_
  by_cases t0 : c (3 * j) = nI 0
  ·
    refine j_tableIn (tgt := 60) (off := 30) dX6_does_30 (by rw [t0]; decide) (by rw [t0]; decide) (by rw [t0]; rfl) (by decide) ?_
    refine j_aload_n (pc' := 61) dX6_does_60 rfl rfl ?_
    refine j_iload_n (pc' := 62) dX6_does_61 rfl rfl ?_
    refine j_iload_n (pc' := 63) dX6_does_62 rfl rfl ?_
    refine j_cVi (pc' := 66) m_X6_71 (c_X6_fVal hs hv.z hv.k16) (by assumption) (by decide) rfl rfl rfl ⟨Nat.le_of_ble_eq_true rfl, Nat.le_of_ble_eq_true rfl⟩ ⟨Nat.zero_le _, Nat.zero_le _⟩ (Nat.le_of_ble_eq_true rfl) dX6_does_63 rfl (fun x1 I1 hq => ?_)
    obtain ⟨rfl, rfl⟩ := hq
    refine j_reti dX6_does_66 rfl (by first | rfl | exact bi_n _) ?_
    rw [dsF, if_pos t0]
    exact ⟨rfl, rfl⟩
  ·
    by_cases t1 : c (3 * j) = nI 1
    ·
      refine j_tableIn (tgt := 67) (off := 37) dX6_does_30 (by rw [t1]; decide) (by rw [t1]; decide) (by rw [t1]; rfl) (by decide) ?_
      refine j_aload_n (pc' := 68) dX6_does_67 rfl rfl ?_
      refine j_iload_n (pc' := 69) dX6_does_68 rfl rfl ?_
      refine j_cVi (pc' := 72) m_X6_113 (c_X6_fAck hs hv.z hv.k16 hv.n (by omega)) (by assumption) (by decide) rfl rfl rfl ⟨Nat.le_of_ble_eq_true rfl, Nat.le_of_ble_eq_true rfl⟩ ⟨Nat.zero_le _, Nat.zero_le _⟩ (Nat.le_of_ble_eq_true rfl) dX6_does_69 rfl (fun x1 I1 hq => ?_)
      obtain ⟨rfl, rfl⟩ := hq
      refine j_reti dX6_does_72 rfl (by first | rfl | exact bi_n _) ?_
      rw [dsF, if_neg t0, if_pos t1]
      exact ⟨rfl, rfl⟩
    ·
      by_cases t2 : c (3 * j) = nI 2
      ·
        refine j_tableIn (tgt := 73) (off := 43) dX6_does_30 (by rw [t2]; decide) (by rw [t2]; decide) (by rw [t2]; rfl) (by decide) ?_
        refine j_aload_n (pc' := 74) dX6_does_73 rfl rfl ?_
        refine j_iload_n (pc' := 75) dX6_does_74 rfl rfl ?_
        refine j_iload_n (pc' := 76) dX6_does_75 rfl rfl ?_
        refine j_cVi (pc' := 79) m_X6_125 (c_X6_fShv hs hv.z hv.k16 hv.n (by omega)) (by assumption) (by decide) rfl rfl rfl ⟨Nat.le_of_ble_eq_true rfl, Nat.le_of_ble_eq_true rfl⟩ ⟨Nat.zero_le _, Nat.zero_le _⟩ (Nat.le_of_ble_eq_true rfl) dX6_does_76 rfl (fun x1 I1 hq => ?_)
        obtain ⟨rfl, rfl⟩ := hq
        refine j_reti dX6_does_79 rfl (by first | rfl | exact bi_n _) ?_
        rw [dsF, if_neg t0, if_neg t1, if_pos t2]
        exact ⟨rfl, rfl⟩
      ·
        by_cases t3 : c (3 * j) = nI 3
        ·
          refine j_tableIn (tgt := 80) (off := 50) dX6_does_30 (by rw [t3]; decide) (by rw [t3]; decide) (by rw [t3]; rfl) (by decide) ?_
          refine j_aload_n (pc' := 81) dX6_does_80 rfl rfl ?_
          refine j_iload_n (pc' := 82) dX6_does_81 rfl rfl ?_
          refine j_cVi (pc' := 85) m_X6_110 (c_X6_fTks hs hv.k16 hv.z hv.t hv.tl hv.s hv.sl hv.n hNb hv.K5) (by assumption) (by decide) rfl rfl rfl ⟨Nat.le_of_ble_eq_true rfl, Nat.le_of_ble_eq_true rfl⟩ ⟨Nat.zero_le _, Nat.zero_le _⟩ (Nat.le_of_ble_eq_true rfl) dX6_does_82 rfl (fun x1 I1 hq => ?_)
          obtain ⟨rfl, rfl⟩ := hq
          refine j_reti dX6_does_85 rfl (by first | rfl | exact bi_n _) ?_
          rw [dsF, if_neg t0, if_neg t1, if_neg t2, if_pos t3]
          exact ⟨rfl, rfl⟩
        ·
          refine j_tableOut (tgt := 86) dX6_does_30 (by
            have e0 : (c (3 * j)).toInt ≠ 0 := fun z => t0 (Int32.toInt_inj.mp (z.trans (by decide)))
            have e1 : (c (3 * j)).toInt ≠ 1 := fun z => t1 (Int32.toInt_inj.mp (z.trans (by decide)))
            have e2 : (c (3 * j)).toInt ≠ 2 := fun z => t2 (Int32.toInt_inj.mp (z.trans (by decide)))
            have e3 : (c (3 * j)).toInt ≠ 3 := fun z => t3 (Int32.toInt_inj.mp (z.trans (by decide)))
            omega) (by decide) ?_
          refine j_aload_n (pc' := 87) dX6_does_86 rfl rfl ?_
          refine j_iload_n (pc' := 88) dX6_does_87 rfl rfl ?_
          refine j_cVi (pc' := 91) m_X6_90 (c_X6_fMod hs) (by assumption) (by decide) rfl rfl rfl ⟨Nat.le_of_ble_eq_true rfl, Nat.le_of_ble_eq_true rfl⟩ ⟨Nat.zero_le _, Nat.zero_le _⟩ (Nat.le_of_ble_eq_true rfl) dX6_does_88 rfl (fun x1 I1 hq => ?_)
          obtain ⟨rfl, rfl⟩ := hq
          refine j_reti dX6_does_91 rfl (by first | rfl | exact bi_n _) ?_
          rw [dsF, if_neg t0, if_neg t1, if_neg t2, if_neg t3]
          exact ⟨rfl, rfl⟩

