theorem sTick_lo {v : Nat → Int32} {k T S j : Nat} (h : j = 0 ∨ j = 2 ∨ j = 5 ∨ j = 6 ∨ j = 7 ∨ j = 10 ∨ j = 11) : sTick v k T S j = v j := by
  unfold sTick
  rw [ptA_o (by omega), fld_o (by omega) (by omega), shA_o (by omega) (by omega), lookA_o (by omega) (by omega), tk0_o (by omega) (by omega)]
theorem sTick_1 {v : Nat → Int32} {k T S : Nat} : sTick v k T S 1 = nI (T + 1) := by
  unfold sTick
  rw [ptA_o (by omega), fld_o (by omega) (by omega), shA_o (by omega) (by omega), lookA_o (by omega) (by omega), tk0_1]
theorem sTick_9 {v : Nat → Int32} {k T S N : Nat} (h16 : k ≤ 16) (hN : v 9 = nI N) (hb : N + 100 < 2147483000) : ∃ N', N ≤ N' ∧ N' ≤ N + 33 ∧ sTick v k T S 9 = nI N' := by
  have q9 : tk0 v T 9 = nI N := by rw [tk0_o (by omega) (by omega), hN]
  obtain ⟨N1, h1, h2, r9⟩ := lookA_9 (T := T + 1) q9 (by omega) k h16
  obtain ⟨N2, h3, h4, s9⟩ := shA_9 (T := T + 1) r9 (by omega) k h16
  obtain ⟨N3, h5, h6, f9⟩ := fld_9 (T := T + 1) (S := S) s9 (by omega)
  exact ⟨N3, by omega, by omega, by unfold sTick; rw [ptA_o (by omega), f9]⟩
/-- the fields of a point that a tick leaves alone: its settings, its value, its root, its shelf time -/
theorem sTick_f {v : Nat → Int32} {k T S a w : Nat} (h : w ≤ 8) : sTick v k T S (176 + 56 * a + w) = v (176 + 56 * a + w) := by
  unfold sTick
  rw [ptA_f (by omega), fld_o (by omega) (by omega), shA_f (by omega) (by omega), lookA_f (by omega) (by omega), tk0_o (by omega) (by omega)]
theorem ptA_15 {v : Nat → Int32} {a : Nat} : ∀ i, a < i → ptA v i (176 + 56 * a + 15) = nI (kpt v a + 1) := by
  intro i
  induction i with
  | zero => intro h; omega
  | succ i ih =>
    intro h
    have : kpt v i % 40 < 40 := Nat.mod_lt _ (by decide)
    rw [ptA]
    by_cases he : a = i
    · subst he
      exact pk_us
    · rw [pk_un (by omega), pk_un (by omega), ih (by omega)]
theorem sTick_15 {v : Nat → Int32} {k T S a K : Nat} (ha : a < k) (hK : v (176 + 56 * a + 15) = nI K) (hb : K < 1000000) : sTick v k T S (176 + 56 * a + 15) = nI (K + 1) := by
  unfold sTick
  rw [ptA_15 k ha, kpt, fld_o (by omega) (by omega), shA_f (by omega) (by omega), lookA_f (by omega) (by omega), tk0_o (by omega) (by omega), hK, nI_clamp (by omega)]
def tkF (v : Nat → Int32) (k T S : Nat) : Nat → (Nat → Int32)
  | 0 => v
  | j + 1 => sTick (tkF v k T S j) k (T + j) S
theorem tkF_lo {v : Nat → Int32} {k T S j : Nat} (h : j = 0 ∨ j = 2 ∨ j = 5 ∨ j = 6 ∨ j = 7 ∨ j = 10 ∨ j = 11) : ∀ i, tkF v k T S i j = v j := by
  intro i
  induction i with
  | zero => rfl
  | succ i ih => rw [tkF, sTick_lo h, ih]
theorem tkF_1 {v : Nat → Int32} {k T S : Nat} (hT : v 1 = nI T) : ∀ i, tkF v k T S i 1 = nI (T + i) := by
  intro i
  cases i with
  | zero => exact hT
  | succ i => rw [tkF, sTick_1]; rfl
theorem tkF_9 {v : Nat → Int32} {k T S N : Nat} (h16 : k ≤ 16) (hN : v 9 = nI N) (hb : N + 5000 < 2147483000) : ∀ i, i ≤ 100 → ∃ N', N ≤ N' ∧ N' ≤ N + 33 * i ∧ tkF v k T S i 9 = nI N' := by
  intro i
  induction i with
  | zero => intro _; exact ⟨N, Nat.le_refl _, by omega, hN⟩
  | succ i ih =>
    intro hi
    obtain ⟨N1, h1, h2, h3⟩ := ih (by omega)
    obtain ⟨N2, h4, h5, h6⟩ := sTick_9 (T := T + i) (S := S) h16 h3 (by omega)
    exact ⟨N2, by omega, by omega, by rw [tkF]; exact h6⟩
theorem tkF_15 {v : Nat → Int32} {k T S a K : Nat} (ha : a < k) (hK : v (176 + 56 * a + 15) = nI K) (hb : K < 100000) : ∀ i, i ≤ 100 → tkF v k T S i (176 + 56 * a + 15) = nI (K + i) := by
  intro i
  induction i with
  | zero => intro _; exact hK
  | succ i ih =>
    intro hi
    rw [tkF, sTick_15 ha (ih (by omega)) (by omega)]
    rfl
theorem tkF_f {v : Nat → Int32} {k T S a w : Nat} (h : w ≤ 8) : ∀ i, tkF v k T S i (176 + 56 * a + w) = v (176 + 56 * a + w) := by
  intro i
  induction i with
  | zero => rfl
  | succ i ih => rw [tkF, sTick_f h, ih]
def fTks (v : Nat → Int32) (k T S : Nat) (x : Int32) : Int32 × (Nat → Int32) :=
  if decide (nI 1 ≤ x ∧ x ≤ nI 100) = true then if T + x.toNatClampNeg ≤ 10000 then (nI (T + x.toNatClampNeg), tkF v k T S x.toNatClampNeg) else (-20002, v) else (-20001, v)

set_option maxRecDepth 100000 in
set_option maxHeartbeats 4000000 in
theorem lp_X6_ticks {E : jx_E} {l : Launch} {n : Nat} {kd : jx_K} {R : jx_R} {I0 : jx_I} {m : Nat} {F v a p o t c : Nat → Int32} {x : Nat} (hs : sMd kd R m) {k T S N : Nat} (h16 : k ≤ 16) (hk : v 0 = nI k) (hT : v 1 = nI T) (hT1 : T ≤ 10000) (hS : v 5 = nI S) (hS1 : S ≤ 60) (hN : v 9 = nI N) (hNb : N + 5000 < 2147483000) (hK : ∀ i, i < k → ∃ K, K ≤ 50000 ∧ v (176 + 56 * i + 15) = nI K) (hx : T + x ≤ 10000) (hx1 : x ≤ 100) : ∀ (z j : Nat), j ≤ x → z + j = x + 1 → jx_J E l cX6_ticks 3 (some .int) RX6 false (jx_rm 4) 0 0 (jx_Q0 n kd R (jx_Pi (fun r I' => r = nI (T + x) ∧ I' = mI I0 m F (tkF v k T S x) a p o t c))) 0 0 n kd R (mI I0 m F (tkF v k T S j) a p o t c) 34 [some (.ref m), some (.int (nI x)), some (.int (nI j))] [] := by
  obtain ⟨K0, K1, K2, K3, K4, K5, K6, R0, R1, R2, R4, R6, R10⟩ := id hs
  intro z
  induction z with
  | zero => intro j hj hz; omega
  | succ z ih =>
    intro j hj hz
    have u0 : tkF v k T S j 0 = nI k := by rw [tkF_lo (by omega), hk]
    have u1 : tkF v k T S j 1 = nI (T + j) := tkF_1 hT j
    have u5 : tkF v k T S j 5 = nI S := by rw [tkF_lo (by omega), hS]
    obtain ⟨N', hN1, hN2, u9⟩ := tkF_9 (T := T) (S := S) h16 hN (by omega) j (by omega)
    have uK : ∀ i, i < k → ∃ K, K ≤ 100000 ∧ tkF v k T S j (176 + 56 * i + 15) = nI K := fun i hi => by
      obtain ⟨K, h1, h2⟩ := hK i hi
      exact ⟨K + j, by omega, tkF_15 hi h2 (by omega) j (by omega)⟩
    refine j_iload_n (pc' := 35) dX6_ticks_34 rfl rfl ?_
    refine j_iload_n (pc' := 36) dX6_ticks_35 rfl rfl ?_
    first | refine j_icmp_geN' (tgt := 49) (pc' := 39) (by with_reducible rfl) (by with_reducible rfl) (by omega) (by omega) dX6_ticks_36 rfl (by decide) (fun c36 => ?_) (fun c36 => ?_) | refine j_icmp_ge (tgt := 49) (pc' := 39) dX6_ticks_36 rfl (by decide) (fun c36 => ?_) (fun c36 => ?_)
    ·
      refine j_aload_n (pc' := 50) dX6_ticks_49 rfl rfl ?_
      refine j_getR (pc' := 53) f_X6_7 (by assumption) (by assumption) dX6_ticks_50 rfl ?_
      refine j_iconst (pc' := 54) (v := nI 1) dX6_ticks_53 rfl rfl ?_
      refine j_ialdv (pc' := 55) (by assumption) rfl (by omega) (by omega) (by first | (simp (disch := omega) only [jx_upS, jx_upK, jx_upA, mI_0, mI_1, mI_2, mI_3, mI_4, mI_5, mI_6, pk_us, pk_un, u1]; rfl) | rfl) dX6_ticks_54 rfl ?_
      refine j_reti dX6_ticks_55 rfl (by first | rfl | exact bi_n _) ?_
      have : j = x := by omega
      subst this
      exact ⟨rfl, rfl⟩
    ·
      refine j_aload_n (pc' := 40) dX6_ticks_39 rfl rfl ?_
      refine j_cVv (pc' := 43) m_X6_107 (c_X6_ticksOnce hs h16 u0 u1 (by omega) u5 hS1 u9 (by omega) uK) (by assumption) (by decide) rfl rfl rfl ⟨Nat.le_of_ble_eq_true rfl, Nat.le_of_ble_eq_true rfl⟩ ⟨Nat.zero_le _, Nat.zero_le _⟩ (Nat.le_of_ble_eq_true rfl) dX6_ticks_40 rfl (fun I1 hq => ?_)
      subst hq
      first | refine j_iincN (pc' := 46) (lv' := [_, _, _]) dX6_ticks_43 rfl rfl (by decide) rfl ?_ | refine j_iinc (pc' := 46) (lv' := [_, _, _]) dX6_ticks_43 rfl rfl rfl (by decide) rfl ?_
      refine j_goto (tgt := 34) dX6_ticks_46 (by decide) ?_
      exact ih (j + 1) (by omega) (by omega)
set_option maxRecDepth 100000 in
set_option maxHeartbeats 4000000 in
theorem c_X6_fTks {E : jx_E} {l : Launch} {n : Nat} {kd : jx_K} {R : jx_R} {I0 : jx_I} {m : Nat} {F v a p o t c : Nat → Int32} {x : Int32} {k T S N : Nat} (hs : sMd kd R m)  (h16 : k ≤ 16) (hk : v 0 = nI k) (hT : v 1 = nI T) (hT1 : T ≤ 10000) (hS : v 5 = nI S) (hS1 : S ≤ 60) (hN : v 9 = nI N) (hNb : N + 5000 < 2147483000) (hK : ∀ i, i < k → ∃ K, K ≤ 50000 ∧ v (176 + 56 * i + 15) = nI K) : jx_Ci E l yX6_ticks cX6_ticks 3 (some .int) 4 n kd R (mI I0 m F v a p o t c) [.ref m, .int x] (fun r I' => r = (fTks v k T S x).1 ∧ I' = mI I0 m F ((fTks v k T S x).2) a p o t c) := by
  obtain ⟨K0, K1, K2, K3, K4, K5, K6, R0, R1, R2, R4, R6, R10⟩ := id hs
  refine jx_C0.ofJ RX6 [some (.ref m), some (.int x), none] (by decide) rfl rfl (Nat.le_of_ble_eq_true rfl) rfl ?_
  refine j_iload_n (pc' := 1) dX6_ticks_0 rfl rfl ?_
  refine j_iconst (pc' := 2) (v := nI 1) dX6_ticks_1 rfl rfl ?_
  refine j_bipush (pc' := 4) (v := nI 100) dX6_ticks_2 rfl rfl ?_
  refine j_cSi (pc' := 7) m_X6_32 (c_X6_in E l n kd R _ _ _ _) rfl rfl ⟨Nat.le_of_ble_eq_true rfl, Nat.le_of_ble_eq_true rfl⟩ ⟨Nat.zero_le _, Nat.zero_le _⟩ (Nat.le_of_ble_eq_true rfl) dX6_ticks_4 rfl (fun x1 I1 hq => ?_)
  obtain ⟨rfl, rfl⟩ := hq
  first | refine j_if_neB' (tgt := 14) (pc' := 10) (by with_reducible rfl) dX6_ticks_7 rfl (by decide) (fun c7 => ?_) (fun c7 => ?_) | refine j_if_neN' (tgt := 14) (pc' := 10) (by with_reducible rfl) (by omega) dX6_ticks_7 rfl (by decide) (fun c7 => ?_) (fun c7 => ?_) | refine j_if_ne (tgt := 14) (pc' := 10) dX6_ticks_7 rfl (by decide) (fun c7 => ?_) (fun c7 => ?_)
  ·
    have hok := c7
    obtain ⟨j, hj0, hj, rfl⟩ := in_nat c7 (by omega) (by omega)
    refine j_aload_n (pc' := 15) dX6_ticks_14 rfl rfl ?_
    refine j_getR (pc' := 18) f_X6_7 (by assumption) (by assumption) dX6_ticks_15 rfl ?_
    refine j_iconst (pc' := 19) (v := nI 1) dX6_ticks_18 rfl rfl ?_
    refine j_ialdv (pc' := 20) (by assumption) rfl (by omega) (by omega) (by first | (simp (disch := omega) only [jx_upS, jx_upK, jx_upA, mI_0, mI_1, mI_2, mI_3, mI_4, mI_5, mI_6, pk_us, pk_un, hT]; rfl) | rfl) dX6_ticks_19 rfl ?_
    refine j_iload_n (pc' := 21) dX6_ticks_20 rfl rfl ?_
    first | refine j_iaddN' (pc' := 22) (by with_reducible rfl) (by with_reducible rfl) dX6_ticks_21 rfl ?_ | refine j_iadd (pc' := 22) dX6_ticks_21 rfl ?_
    refine j_sipush (pc' := 25) (v := nI 10000) dX6_ticks_22 rfl rfl ?_
    first | refine j_icmp_leN' (tgt := 32) (pc' := 28) (by with_reducible rfl) (by with_reducible rfl) (by omega) (by omega) dX6_ticks_25 rfl (by decide) (fun c25 => ?_) (fun c25 => ?_) | refine j_icmp_le (tgt := 32) (pc' := 28) dX6_ticks_25 rfl (by decide) (fun c25 => ?_) (fun c25 => ?_)
    ·
      refine j_iconst (pc' := 33) (v := nI 0) dX6_ticks_32 rfl rfl ?_
      refine j_istore_n (pc' := 34) (lv' := [_, _, _]) dX6_ticks_33 rfl (by decide) rfl ?_
      refine ct_post_i ?_ (lp_X6_ticks hs h16 hk hT hT1 hS hS1 hN hNb hK (x := j) (by omega) (by omega) (j + 1) 0 (by omega) (by omega))
      intro r I' hq
      obtain ⟨rfl, rfl⟩ := hq
      rw [fTks, if_pos hok, nI_clamp (by omega), if_pos (by omega)]
      exact ⟨rfl, rfl⟩
    ·
      refine j_sipush (pc' := 31) (v := -20002) dX6_ticks_28 rfl rfl ?_
      refine j_reti dX6_ticks_31 rfl (by first | rfl | exact bi_n _) ?_
      rw [fTks, if_pos hok, nI_clamp (by omega), if_neg (by omega)]
      exact ⟨rfl, rfl⟩
  ·
    refine j_sipush (pc' := 13) (v := -20001) dX6_ticks_10 rfl rfl ?_
    refine j_reti dX6_ticks_13 rfl (by first | rfl | exact bi_n _) ?_
    rw [fTks, if_neg (by rw [c7]; decide)]
    exact ⟨rfl, rfl⟩

set_option maxRecDepth 100000 in
set_option maxHeartbeats 4000000 in
theorem c_X6_tick {E : jx_E} {l : Launch} {n : Nat} {kd : jx_K} {R : jx_R} {I0 : jx_I} {m : Nat} {F v a p o t c : Nat → Int32} {x : Int32} {q : Nat} {k T S N : Nat} (hs : sMd kd R m)  (h16 : k ≤ 16) (hk : v 0 = nI k) (hT : v 1 = nI T) (hT1 : T ≤ 10000) (hS : v 5 = nI S) (hS1 : S ≤ 60) (hN : v 9 = nI N) (hNb : N + 5000 < 2147483000) (hK : ∀ i, i < k → ∃ K, K ≤ 50000 ∧ v (176 + 56 * i + 15) = nI K) (hc : F 3 = nI q) (hc4 : q ≤ 4) : jx_Ci E l yX6_tick cX6_tick 2 (some .int) 5 n kd R (mI I0 m F v a p o t c) [.ref m, .int x] (fun r I' => r = (fTks v k T S x).1 ∧ I' = if isE (fTks v k T S x).1 = true then mI I0 m F ((fTks v k T S x).2) (cpA v a) p o t c else mI I0 m (upd F 3 (nI (kpC q))) ((fTks v k T S x).2) (cpA v a) (kpP p q (cpA v a)) o t c) := by
  obtain ⟨K0, K1, K2, K3, K4, K5, K6, R0, R1, R2, R4, R6, R10⟩ := id hs
  refine jx_C0.ofJ RX6 [some (.ref m), some (.int x)] (by decide) rfl rfl (Nat.le_of_ble_eq_true rfl) rfl ?_
  refine j_aload_n (pc' := 1) dX6_tick_0 rfl rfl ?_
  refine j_getR (pc' := 4) f_X6_7 (by assumption) (by assumption) dX6_tick_1 rfl ?_
  refine j_aload_n (pc' := 5) dX6_tick_4 rfl rfl ?_
  refine j_getR (pc' := 8) f_X6_13 (by assumption) (by assumption) dX6_tick_5 rfl ?_
  refine j_cSv (pc' := 11) m_X6_67 (c_X6_copies K1 K2 (by omega)) rfl rfl ⟨Nat.le_of_ble_eq_true rfl, Nat.le_of_ble_eq_true rfl⟩ ⟨Nat.zero_le _, Nat.zero_le _⟩ (Nat.le_of_ble_eq_true rfl) dX6_tick_8 rfl (fun I1 hq => ?_)
  subst hq
  rw [cpVA]
  refine j_aload_n (pc' := 12) dX6_tick_11 rfl rfl ?_
  refine j_aload_n (pc' := 13) dX6_tick_12 rfl rfl ?_
  refine j_iload_n (pc' := 14) dX6_tick_13 rfl rfl ?_
  refine j_cVi (pc' := 17) m_X6_110 (c_X6_fTks hs h16 hk hT hT1 hS hS1 hN hNb hK) (by assumption) (by decide) rfl rfl rfl ⟨Nat.le_of_ble_eq_true rfl, Nat.le_of_ble_eq_true rfl⟩ ⟨Nat.zero_le _, Nat.zero_le _⟩ (Nat.le_of_ble_eq_true rfl) dX6_tick_14 rfl (fun x1 I1 hq => ?_)
  obtain ⟨rfl, rfl⟩ := hq
  refine j_cVi (pc' := 20) m_X6_74 (c_X6_acts hs hc hc4) (by assumption) (by decide) rfl rfl rfl ⟨Nat.le_of_ble_eq_true rfl, Nat.le_of_ble_eq_true rfl⟩ ⟨Nat.zero_le _, Nat.zero_le _⟩ (Nat.le_of_ble_eq_true rfl) dX6_tick_17 rfl (fun x1 I1 hq => ?_)
  obtain ⟨rfl, rfl⟩ := hq
  refine j_reti dX6_tick_20 rfl (by first | rfl | exact bi_n _) ?_
  exact ⟨rfl, rfl⟩

