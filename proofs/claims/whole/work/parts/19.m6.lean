def cpA (v a : Nat → Int32) : Nat → Int32 := fun j => if j < 1080 then v j else a j
theorem cpVA {I0 : jx_I} {m : Nat} {F v a p o t c : Nat → Int32} : va_up (mI I0 m F v a p o t c) (m + 2) (fun j => if j < 1080 then mI I0 m F v a p o t c (m + 1) j else mI I0 m F v a p o t c (m + 2) j) = mI I0 m F v (cpA v a) p o t c := by
  rw [mI_1, mI_2]
  funext b
  by_cases hb : b = m + 2
  · subst hb
    rw [va_up_self, mI_2]
    rfl
  · rw [va_up_ne _ _ hb]
    simp [mI, hb]
theorem cpAV {I0 : jx_I} {m : Nat} {F v a p o t c : Nat → Int32} : va_up (mI I0 m F v a p o t c) (m + 1) (fun j => if j < 1080 then mI I0 m F v a p o t c (m + 2) j else mI I0 m F v a p o t c (m + 1) j) = mI I0 m F (cpA a v) a p o t c := by
  rw [mI_1, mI_2]
  funext b
  by_cases hb : b = m + 1
  · subst hb
    rw [va_up_self, mI_1]
    rfl
  · rw [va_up_ne _ _ hb]
    simp [mI, hb]

set_option maxRecDepth 100000 in
set_option maxHeartbeats 4000000 in
theorem c_X6_setValue {E : jx_E} {l : Launch} {n : Nat} {kd : jx_K} {R : jx_R} {I0 : jx_I} {m : Nat} {F v a p o t c : Nat → Int32} {k q : Nat} {x y : Int32} (hs : sMd kd R m) (hk : v 0 = nI k) (h16 : k ≤ 16) (hc : F 3 = nI q) (hc4 : q ≤ 4) : jx_Ci E l yX6_setValue cX6_setValue 3 (some .int) 3 n kd R (mI I0 m F v a p o t c) [.ref m, .int x, .int y] (fun r I' => r = (fVal v x y).1 ∧ I' = if isE (fVal v x y).1 = true then mI I0 m F ((fVal v x y).2) (cpA v a) p o t c else mI I0 m (upd F 3 (nI (kpC q))) ((fVal v x y).2) (cpA v a) (kpP p q (cpA v a)) o t c) := by
  obtain ⟨K0, K1, K2, K3, K4, K5, K6, R0, R1, R2, R4, R6, R10⟩ := id hs
  refine jx_C0.ofJ RX6 [some (.ref m), some (.int x), some (.int y)] (by decide) rfl rfl (Nat.le_of_ble_eq_true rfl) rfl ?_
  refine j_aload_n (pc' := 1) dX6_setValue_0 rfl rfl ?_
  refine j_getR (pc' := 4) f_X6_7 (by assumption) (by assumption) dX6_setValue_1 rfl ?_
  refine j_aload_n (pc' := 5) dX6_setValue_4 rfl rfl ?_
  refine j_getR (pc' := 8) f_X6_13 (by assumption) (by assumption) dX6_setValue_5 rfl ?_
  refine j_cSv (pc' := 11) m_X6_67 (c_X6_copies K1 K2 (by omega)) rfl rfl ⟨Nat.le_of_ble_eq_true rfl, Nat.le_of_ble_eq_true rfl⟩ ⟨Nat.zero_le _, Nat.zero_le _⟩ (Nat.le_of_ble_eq_true rfl) dX6_setValue_8 rfl (fun I1 hq => ?_)
  subst hq
  rw [cpVA]
  refine j_aload_n (pc' := 12) dX6_setValue_11 rfl rfl ?_
  refine j_aload_n (pc' := 13) dX6_setValue_12 rfl rfl ?_
  refine j_iload_n (pc' := 14) dX6_setValue_13 rfl rfl ?_
  refine j_iload_n (pc' := 15) dX6_setValue_14 rfl rfl ?_
  refine j_cVi (pc' := 18) m_X6_71 (c_X6_fVal hs hk h16) (by assumption) (by decide) rfl rfl rfl ⟨Nat.le_of_ble_eq_true rfl, Nat.le_of_ble_eq_true rfl⟩ ⟨Nat.zero_le _, Nat.zero_le _⟩ (Nat.le_of_ble_eq_true rfl) dX6_setValue_15 rfl (fun x1 I1 hq => ?_)
  obtain ⟨rfl, rfl⟩ := hq
  refine j_cVi (pc' := 21) m_X6_74 (c_X6_acts hs hc hc4) (by assumption) (by decide) rfl rfl rfl ⟨Nat.le_of_ble_eq_true rfl, Nat.le_of_ble_eq_true rfl⟩ ⟨Nat.zero_le _, Nat.zero_le _⟩ (Nat.le_of_ble_eq_true rfl) dX6_setValue_18 rfl (fun x1 I1 hq => ?_)
  obtain ⟨rfl, rfl⟩ := hq
  refine j_reti dX6_setValue_21 rfl (by first | rfl | exact bi_n _) ?_
  exact ⟨rfl, rfl⟩

set_option maxRecDepth 100000 in
set_option maxHeartbeats 4000000 in
theorem c_X6_setState {E : jx_E} {l : Launch} {n : Nat} {kd : jx_K} {R : jx_R} {I0 : jx_I} {m : Nat} {F v a p o t c : Nat → Int32} {q : Nat} {x : Int32} (hs : sMd kd R m) (hc : F 3 = nI q) (hc4 : q ≤ 4) : jx_Ci E l yX6_setState cX6_setState 2 (some .int) 3 n kd R (mI I0 m F v a p o t c) [.ref m, .int x] (fun r I' => r = (fMod v x).1 ∧ I' = if isE (fMod v x).1 = true then mI I0 m F ((fMod v x).2) (cpA v a) p o t c else mI I0 m (upd F 3 (nI (kpC q))) ((fMod v x).2) (cpA v a) (kpP p q (cpA v a)) o t c) := by
  obtain ⟨K0, K1, K2, K3, K4, K5, K6, R0, R1, R2, R4, R6, R10⟩ := id hs
  refine jx_C0.ofJ RX6 [some (.ref m), some (.int x)] (by decide) rfl rfl (Nat.le_of_ble_eq_true rfl) rfl ?_
  refine j_aload_n (pc' := 1) dX6_setState_0 rfl rfl ?_
  refine j_getR (pc' := 4) f_X6_7 (by assumption) (by assumption) dX6_setState_1 rfl ?_
  refine j_aload_n (pc' := 5) dX6_setState_4 rfl rfl ?_
  refine j_getR (pc' := 8) f_X6_13 (by assumption) (by assumption) dX6_setState_5 rfl ?_
  refine j_cSv (pc' := 11) m_X6_67 (c_X6_copies K1 K2 (by omega)) rfl rfl ⟨Nat.le_of_ble_eq_true rfl, Nat.le_of_ble_eq_true rfl⟩ ⟨Nat.zero_le _, Nat.zero_le _⟩ (Nat.le_of_ble_eq_true rfl) dX6_setState_8 rfl (fun I1 hq => ?_)
  subst hq
  rw [cpVA]
  refine j_aload_n (pc' := 12) dX6_setState_11 rfl rfl ?_
  refine j_aload_n (pc' := 13) dX6_setState_12 rfl rfl ?_
  refine j_iload_n (pc' := 14) dX6_setState_13 rfl rfl ?_
  refine j_cVi (pc' := 17) m_X6_90 (c_X6_fMod hs) (by assumption) (by decide) rfl rfl rfl ⟨Nat.le_of_ble_eq_true rfl, Nat.le_of_ble_eq_true rfl⟩ ⟨Nat.zero_le _, Nat.zero_le _⟩ (Nat.le_of_ble_eq_true rfl) dX6_setState_14 rfl (fun x1 I1 hq => ?_)
  obtain ⟨rfl, rfl⟩ := hq
  refine j_cVi (pc' := 20) m_X6_74 (c_X6_acts hs hc hc4) (by assumption) (by decide) rfl rfl rfl ⟨Nat.le_of_ble_eq_true rfl, Nat.le_of_ble_eq_true rfl⟩ ⟨Nat.zero_le _, Nat.zero_le _⟩ (Nat.le_of_ble_eq_true rfl) dX6_setState_17 rfl (fun x1 I1 hq => ?_)
  obtain ⟨rfl, rfl⟩ := hq
  refine j_reti dX6_setState_20 rfl (by first | rfl | exact bi_n _) ?_
  exact ⟨rfl, rfl⟩

set_option maxRecDepth 100000 in
set_option maxHeartbeats 4000000 in
theorem c_X6_ack {E : jx_E} {l : Launch} {n : Nat} {kd : jx_K} {R : jx_R} {I0 : jx_I} {m : Nat} {F v a p o t c : Nat → Int32} {k q N : Nat} {x : Int32} (hs : sMd kd R m) (hk : v 0 = nI k) (h16 : k ≤ 16) (hc : F 3 = nI q) (hc4 : q ≤ 4) (hN : v 9 = nI N) (hNb : N < 2147483000) : jx_Ci E l yX6_ack cX6_ack 2 (some .int) 3 n kd R (mI I0 m F v a p o t c) [.ref m, .int x] (fun r I' => r = (fAck v x).1 ∧ I' = if isE (fAck v x).1 = true then mI I0 m F ((fAck v x).2) (cpA v a) p o t c else mI I0 m (upd F 3 (nI (kpC q))) ((fAck v x).2) (cpA v a) (kpP p q (cpA v a)) o t c) := by
  obtain ⟨K0, K1, K2, K3, K4, K5, K6, R0, R1, R2, R4, R6, R10⟩ := id hs
  refine jx_C0.ofJ RX6 [some (.ref m), some (.int x)] (by decide) rfl rfl (Nat.le_of_ble_eq_true rfl) rfl ?_
  refine j_aload_n (pc' := 1) dX6_ack_0 rfl rfl ?_
  refine j_getR (pc' := 4) f_X6_7 (by assumption) (by assumption) dX6_ack_1 rfl ?_
  refine j_aload_n (pc' := 5) dX6_ack_4 rfl rfl ?_
  refine j_getR (pc' := 8) f_X6_13 (by assumption) (by assumption) dX6_ack_5 rfl ?_
  refine j_cSv (pc' := 11) m_X6_67 (c_X6_copies K1 K2 (by omega)) rfl rfl ⟨Nat.le_of_ble_eq_true rfl, Nat.le_of_ble_eq_true rfl⟩ ⟨Nat.zero_le _, Nat.zero_le _⟩ (Nat.le_of_ble_eq_true rfl) dX6_ack_8 rfl (fun I1 hq => ?_)
  subst hq
  rw [cpVA]
  refine j_aload_n (pc' := 12) dX6_ack_11 rfl rfl ?_
  refine j_aload_n (pc' := 13) dX6_ack_12 rfl rfl ?_
  refine j_iload_n (pc' := 14) dX6_ack_13 rfl rfl ?_
  refine j_cVi (pc' := 17) m_X6_113 (c_X6_fAck hs hk h16 hN hNb) (by assumption) (by decide) rfl rfl rfl ⟨Nat.le_of_ble_eq_true rfl, Nat.le_of_ble_eq_true rfl⟩ ⟨Nat.zero_le _, Nat.zero_le _⟩ (Nat.le_of_ble_eq_true rfl) dX6_ack_14 rfl (fun x1 I1 hq => ?_)
  obtain ⟨rfl, rfl⟩ := hq
  refine j_cVi (pc' := 20) m_X6_74 (c_X6_acts hs hc hc4) (by assumption) (by decide) rfl rfl rfl ⟨Nat.le_of_ble_eq_true rfl, Nat.le_of_ble_eq_true rfl⟩ ⟨Nat.zero_le _, Nat.zero_le _⟩ (Nat.le_of_ble_eq_true rfl) dX6_ack_17 rfl (fun x1 I1 hq => ?_)
  obtain ⟨rfl, rfl⟩ := hq
  refine j_reti dX6_ack_20 rfl (by first | rfl | exact bi_n _) ?_
  exact ⟨rfl, rfl⟩

set_option maxRecDepth 100000 in
set_option maxHeartbeats 4000000 in
theorem c_X6_shelve {E : jx_E} {l : Launch} {n : Nat} {kd : jx_K} {R : jx_R} {I0 : jx_I} {m : Nat} {F v a p o t c : Nat → Int32} {k q N : Nat} {x y : Int32} (hs : sMd kd R m) (hk : v 0 = nI k) (h16 : k ≤ 16) (hc : F 3 = nI q) (hc4 : q ≤ 4) (hN : v 9 = nI N) (hNb : N < 2147483000) : jx_Ci E l yX6_shelve cX6_shelve 3 (some .int) 3 n kd R (mI I0 m F v a p o t c) [.ref m, .int x, .int y] (fun r I' => r = (fShv v x y).1 ∧ I' = if isE (fShv v x y).1 = true then mI I0 m F ((fShv v x y).2) (cpA v a) p o t c else mI I0 m (upd F 3 (nI (kpC q))) ((fShv v x y).2) (cpA v a) (kpP p q (cpA v a)) o t c) := by
  obtain ⟨K0, K1, K2, K3, K4, K5, K6, R0, R1, R2, R4, R6, R10⟩ := id hs
  refine jx_C0.ofJ RX6 [some (.ref m), some (.int x), some (.int y)] (by decide) rfl rfl (Nat.le_of_ble_eq_true rfl) rfl ?_
  refine j_aload_n (pc' := 1) dX6_shelve_0 rfl rfl ?_
  refine j_getR (pc' := 4) f_X6_7 (by assumption) (by assumption) dX6_shelve_1 rfl ?_
  refine j_aload_n (pc' := 5) dX6_shelve_4 rfl rfl ?_
  refine j_getR (pc' := 8) f_X6_13 (by assumption) (by assumption) dX6_shelve_5 rfl ?_
  refine j_cSv (pc' := 11) m_X6_67 (c_X6_copies K1 K2 (by omega)) rfl rfl ⟨Nat.le_of_ble_eq_true rfl, Nat.le_of_ble_eq_true rfl⟩ ⟨Nat.zero_le _, Nat.zero_le _⟩ (Nat.le_of_ble_eq_true rfl) dX6_shelve_8 rfl (fun I1 hq => ?_)
  subst hq
  rw [cpVA]
  refine j_aload_n (pc' := 12) dX6_shelve_11 rfl rfl ?_
  refine j_aload_n (pc' := 13) dX6_shelve_12 rfl rfl ?_
  refine j_iload_n (pc' := 14) dX6_shelve_13 rfl rfl ?_
  refine j_iload_n (pc' := 15) dX6_shelve_14 rfl rfl ?_
  refine j_cVi (pc' := 18) m_X6_125 (c_X6_fShv hs hk h16 hN hNb) (by assumption) (by decide) rfl rfl rfl ⟨Nat.le_of_ble_eq_true rfl, Nat.le_of_ble_eq_true rfl⟩ ⟨Nat.zero_le _, Nat.zero_le _⟩ (Nat.le_of_ble_eq_true rfl) dX6_shelve_15 rfl (fun x1 I1 hq => ?_)
  obtain ⟨rfl, rfl⟩ := hq
  refine j_cVi (pc' := 21) m_X6_74 (c_X6_acts hs hc hc4) (by assumption) (by decide) rfl rfl rfl ⟨Nat.le_of_ble_eq_true rfl, Nat.le_of_ble_eq_true rfl⟩ ⟨Nat.zero_le _, Nat.zero_le _⟩ (Nat.le_of_ble_eq_true rfl) dX6_shelve_18 rfl (fun x1 I1 hq => ?_)
  obtain ⟨rfl, rfl⟩ := hq
  refine j_reti dX6_shelve_21 rfl (by first | rfl | exact bi_n _) ?_
  exact ⟨rfl, rfl⟩

def fUns (v : Nat → Int32) (x : Int32) : Int32 × (Nat → Int32) :=
  if okP v x = true then
    if v (176 + 56 * x.toNatClampNeg + 13) = 0 then (-20002, v)
    else (v (176 + 56 * x.toNatClampNeg + 13) - v 1, sHap (upd v (176 + 56 * x.toNatClampNeg + 13) (nI 0)) (nI 5) x)
  else (-20001, v)
def okF (x y z : Int32) : Bool := decide (nI 1 ≤ x ∧ x ≤ nI 60) && (decide (nI 1 ≤ y ∧ y ≤ nI 50) && decide (nI 0 ≤ z ∧ z ≤ y))
def okS (s x : Int32) : Bool :=
  if s = nI 0 then decide (nI 0 ≤ x ∧ x ≤ nI 1) else if s = nI 1 then okV x else if s = nI 2 then decide (nI 0 ≤ x ∧ x ≤ nI 1000) else if s = nI 3 then decide (nI 0 ≤ x ∧ x ≤ nI 20) else if s = nI 4 then decide (nI 0 ≤ x ∧ x ≤ nI 20) else if s = nI 5 then decide (nI 1 ≤ x ∧ x ≤ nI 4) else if s = nI 6 then decide (nI 0 ≤ x ∧ x ≤ nI 15) else false
/-- kept in the history if something was done -/
def isKept (r : Int32) : Bool := !(decide (r = -20001) || decide (r = -20002) || decide (r = -20003))

set_option maxRecDepth 100000 in
set_option maxHeartbeats 4000000 in
theorem c_X6_unshelve {E : jx_E} {l : Launch} {n : Nat} {kd : jx_K} {R : jx_R} {I0 : jx_I} {m : Nat} {F v a p o t c : Nat → Int32} {k q N : Nat} {x : Int32} (hs : sMd kd R m) (hk : v 0 = nI k) (h16 : k ≤ 16) (hc : F 3 = nI q) (hc4 : q ≤ 4) (hN : v 9 = nI N) (hNb : N < 2147483000) : jx_Ci E l yX6_unshelve cX6_unshelve 3 (some .int) 2 n kd R (mI I0 m F v a p o t c) [.ref m, .int x] (fun r I' => r = (fUns v x).1 ∧ I' = if okP v x = true ∧ ¬ v (176 + 56 * x.toNatClampNeg + 13) = 0 then mI I0 m (upd F 3 (nI (kpC q))) ((fUns v x).2) a (kpP p q v) o t c else mI I0 m F v a p o t c) := by
  obtain ⟨K0, K1, K2, K3, K4, K5, K6, R0, R1, R2, R4, R6, R10⟩ := id hs
  refine jx_C0.ofJ RX6 [some (.ref m), some (.int x), none] (by decide) rfl rfl (Nat.le_of_ble_eq_true rfl) rfl ?_
  refine j_aload_n (pc' := 1) dX6_unshelve_0 rfl rfl ?_
  refine j_iload_n (pc' := 2) dX6_unshelve_1 rfl rfl ?_
  refine j_cVi (pc' := 5) m_X6_52 (c_X6_isPoint hs) (by assumption) (by decide) rfl rfl rfl ⟨Nat.le_of_ble_eq_true rfl, Nat.le_of_ble_eq_true rfl⟩ ⟨Nat.zero_le _, Nat.zero_le _⟩ (Nat.le_of_ble_eq_true rfl) dX6_unshelve_2 rfl (fun x1 I1 hq => ?_)
  obtain ⟨rfl, rfl⟩ := hq
  first | refine j_if_neB (tgt := 12) (pc' := 8) dX6_unshelve_5 rfl (by decide) (fun c5 => ?_) (fun c5 => ?_) | refine j_if_neN (tgt := 12) (pc' := 8) (by omega) dX6_unshelve_5 rfl (by decide) (fun c5 => ?_) (fun c5 => ?_) | refine j_if_ne (tgt := 12) (pc' := 8) dX6_unshelve_5 rfl (by decide) (fun c5 => ?_) (fun c5 => ?_)
  ·
    have hok := c5
    obtain ⟨i, hi, rfl⟩ := okP_nat hk h16 c5
    refine j_aload_n (pc' := 13) dX6_unshelve_12 rfl rfl ?_
    refine j_iload_n (pc' := 14) dX6_unshelve_13 rfl rfl ?_
    refine j_bipush (pc' := 16) (v := nI 13) dX6_unshelve_14 rfl rfl ?_
    refine j_cVi (pc' := 19) m_X6_59 (c_X6_of hs (by omega) (by omega)) (by assumption) (by decide) rfl rfl rfl ⟨Nat.le_of_ble_eq_true rfl, Nat.le_of_ble_eq_true rfl⟩ ⟨Nat.zero_le _, Nat.zero_le _⟩ (Nat.le_of_ble_eq_true rfl) dX6_unshelve_16 rfl (fun x1 I1 hq => ?_)
    obtain ⟨rfl, rfl⟩ := hq
    first | refine j_if_neB (tgt := 26) (pc' := 22) dX6_unshelve_19 rfl (by decide) (fun c19 => ?_) (fun c19 => ?_) | refine j_if_neN (tgt := 26) (pc' := 22) (by omega) dX6_unshelve_19 rfl (by decide) (fun c19 => ?_) (fun c19 => ?_) | refine j_if_ne (tgt := 26) (pc' := 22) dX6_unshelve_19 rfl (by decide) (fun c19 => ?_) (fun c19 => ?_)
    ·
      refine j_aload_n (pc' := 27) dX6_unshelve_26 rfl rfl ?_
      refine j_aload_n (pc' := 28) dX6_unshelve_27 rfl rfl ?_
      refine j_getR (pc' := 31) f_X6_7 (by assumption) (by assumption) dX6_unshelve_28 rfl ?_
      refine j_cVv (pc' := 34) m_X6_40 (c_X6_keeps (row := v) hs K1 (fun _ _ => mI_1) hc hc4) (by assumption) (by decide) rfl rfl rfl ⟨Nat.le_of_ble_eq_true rfl, Nat.le_of_ble_eq_true rfl⟩ ⟨Nat.zero_le _, Nat.zero_le _⟩ (Nat.le_of_ble_eq_true rfl) dX6_unshelve_31 rfl (fun I1 hq => ?_)
      subst hq
      refine j_aload_n (pc' := 35) dX6_unshelve_34 rfl rfl ?_
      refine j_iload_n (pc' := 36) dX6_unshelve_35 rfl rfl ?_
      refine j_bipush (pc' := 38) (v := nI 13) dX6_unshelve_36 rfl rfl ?_
      refine j_cVi (pc' := 41) m_X6_59 (c_X6_of hs (by omega) (by omega)) (by assumption) (by decide) rfl rfl rfl ⟨Nat.le_of_ble_eq_true rfl, Nat.le_of_ble_eq_true rfl⟩ ⟨Nat.zero_le _, Nat.zero_le _⟩ (Nat.le_of_ble_eq_true rfl) dX6_unshelve_38 rfl (fun x1 I1 hq => ?_)
      obtain ⟨rfl, rfl⟩ := hq
      refine j_aload_n (pc' := 42) dX6_unshelve_41 rfl rfl ?_
      refine j_getR (pc' := 45) f_X6_7 (by assumption) (by assumption) dX6_unshelve_42 rfl ?_
      refine j_iconst (pc' := 46) (v := nI 1) dX6_unshelve_45 rfl rfl ?_
      refine j_ialdv (pc' := 47) (by assumption) rfl (by omega) (by omega) (by first | (simp (disch := omega) only [jx_upS, jx_upK, jx_upA, mI_0, mI_1, mI_2, mI_3, mI_4, mI_5, mI_6, pk_us, pk_un]; rfl) | rfl) dX6_unshelve_46 rfl ?_
      first | refine j_isubN (pc' := 48) (by omega) dX6_unshelve_47 rfl ?_ | refine j_isub (pc' := 48) dX6_unshelve_47 rfl ?_
      refine j_istore_n (pc' := 49) (lv' := [_, _, _]) dX6_unshelve_48 rfl (by decide) rfl ?_
      refine j_aload_n (pc' := 50) dX6_unshelve_49 rfl rfl ?_
      refine j_iload_n (pc' := 51) dX6_unshelve_50 rfl rfl ?_
      refine j_cVv (pc' := 54) m_X6_63 (c_X6_leavesShelf hs (by omega) (N := N) (by simp (disch := omega) only [pk_us, pk_un, hN]) hNb) (by assumption) (by decide) rfl rfl rfl ⟨Nat.le_of_ble_eq_true rfl, Nat.le_of_ble_eq_true rfl⟩ ⟨Nat.zero_le _, Nat.zero_le _⟩ (Nat.le_of_ble_eq_true rfl) dX6_unshelve_51 rfl (fun I1 hq => ?_)
      subst hq
      refine j_iload_n (pc' := 55) dX6_unshelve_54 rfl rfl ?_
      refine j_reti dX6_unshelve_55 rfl (by first | rfl | exact bi_n _) ?_
      constructor <;> simp (disch := omega) only [fUns, nI_clamp, pk_us, pk_un, sHap_o, hok, c5, c19, reduceIte, Bool.false_eq_true, eq_self, and_true, and_false, true_and, false_and, not_true_eq_false, not_false_eq_true, Bool.and_true, Bool.and_false, Bool.true_and, Bool.false_and, ne_eq]
    ·
      refine j_sipush (pc' := 25) (v := -20002) dX6_unshelve_22 rfl rfl ?_
      refine j_reti dX6_unshelve_25 rfl (by first | rfl | exact bi_n _) ?_
      constructor <;> simp (disch := omega) only [fUns, nI_clamp, pk_us, pk_un, sHap_o, hok, c5, c19, reduceIte, Bool.false_eq_true, eq_self, and_true, and_false, true_and, false_and, not_true_eq_false, not_false_eq_true, Bool.and_true, Bool.and_false, Bool.true_and, Bool.false_and, ne_eq]
  ·
    refine j_sipush (pc' := 11) (v := -20001) dX6_unshelve_8 rfl rfl ?_
    refine j_reti dX6_unshelve_11 rfl (by first | rfl | exact bi_n _) ?_
    constructor <;> simp (disch := omega) only [fUns, nI_clamp, pk_us, pk_un, sHap_o, c5, reduceIte, Bool.false_eq_true, eq_self, and_true, and_false, true_and, false_and, not_true_eq_false, not_false_eq_true, Bool.and_true, Bool.and_false, Bool.true_and, Bool.false_and, ne_eq]

set_option maxRecDepth 100000 in
set_option maxHeartbeats 4000000 in
theorem c_X6_setFlood {E : jx_E} {l : Launch} {n : Nat} {kd : jx_K} {R : jx_R} {I0 : jx_I} {m : Nat} {F v a p o t c : Nat → Int32} {q : Nat} {x y z : Int32} (hs : sMd kd R m) (hc : F 3 = nI q) (hc4 : q ≤ 4) : jx_Ci E l yX6_setFlood cX6_setFlood 5 (some .int) 1 n kd R (mI I0 m F v a p o t c) [.ref m, .int x, .int y, .int z] (fun r I' => r = (if okF x y z = true then nI 10000 * v 5 + nI 100 * v 6 + v 7 else -20001) ∧ I' = if okF x y z = true then mI I0 m (upd F 3 (nI (kpC q))) (upd (upd (upd v 5 x) 6 y) 7 z) a (kpP p q v) o t c else mI I0 m F v a p o t c) := by
  obtain ⟨K0, K1, K2, K3, K4, K5, K6, R0, R1, R2, R4, R6, R10⟩ := id hs
  refine jx_C0.ofJ RX6 [some (.ref m), some (.int x), some (.int y), some (.int z), none] (by decide) rfl rfl (Nat.le_of_ble_eq_true rfl) rfl ?_
  refine j_iload_n (pc' := 1) dX6_setFlood_0 rfl rfl ?_
  refine j_iconst (pc' := 2) (v := nI 1) dX6_setFlood_1 rfl rfl ?_
  refine j_bipush (pc' := 4) (v := nI 60) dX6_setFlood_2 rfl rfl ?_
  refine j_cSi (pc' := 7) m_X6_32 (c_X6_in E l n kd R _ _ _ _) rfl rfl ⟨Nat.le_of_ble_eq_true rfl, Nat.le_of_ble_eq_true rfl⟩ ⟨Nat.zero_le _, Nat.zero_le _⟩ (Nat.le_of_ble_eq_true rfl) dX6_setFlood_4 rfl (fun x1 I1 hq => ?_)
  obtain ⟨rfl, rfl⟩ := hq
  first | refine j_if_eqB (tgt := 29) (pc' := 10) dX6_setFlood_7 rfl (by decide) (fun c7 => ?_) (fun c7 => ?_) | refine j_if_eqN (tgt := 29) (pc' := 10) (by omega) dX6_setFlood_7 rfl (by decide) (fun c7 => ?_) (fun c7 => ?_) | refine j_if_eq (tgt := 29) (pc' := 10) dX6_setFlood_7 rfl (by decide) (fun c7 => ?_) (fun c7 => ?_)
  ·
    refine j_sipush (pc' := 32) (v := -20001) dX6_setFlood_29 rfl rfl ?_
    refine j_reti dX6_setFlood_32 rfl (by first | rfl | exact bi_n _) ?_
    constructor <;> simp (disch := omega) only [okF, nI_clamp, pk_us, pk_un, sHap_o, c7, reduceIte, Bool.false_eq_true, eq_self, and_true, and_false, true_and, false_and, not_true_eq_false, not_false_eq_true, Bool.and_true, Bool.and_false, Bool.true_and, Bool.false_and, ne_eq]
  ·
    refine j_iload_n (pc' := 11) dX6_setFlood_10 rfl rfl ?_
    refine j_iconst (pc' := 12) (v := nI 1) dX6_setFlood_11 rfl rfl ?_
    refine j_bipush (pc' := 14) (v := nI 50) dX6_setFlood_12 rfl rfl ?_
    refine j_cSi (pc' := 17) m_X6_32 (c_X6_in E l n kd R _ _ _ _) rfl rfl ⟨Nat.le_of_ble_eq_true rfl, Nat.le_of_ble_eq_true rfl⟩ ⟨Nat.zero_le _, Nat.zero_le _⟩ (Nat.le_of_ble_eq_true rfl) dX6_setFlood_14 rfl (fun x1 I1 hq => ?_)
    obtain ⟨rfl, rfl⟩ := hq
    first | refine j_if_eqB (tgt := 29) (pc' := 20) dX6_setFlood_17 rfl (by decide) (fun c17 => ?_) (fun c17 => ?_) | refine j_if_eqN (tgt := 29) (pc' := 20) (by omega) dX6_setFlood_17 rfl (by decide) (fun c17 => ?_) (fun c17 => ?_) | refine j_if_eq (tgt := 29) (pc' := 20) dX6_setFlood_17 rfl (by decide) (fun c17 => ?_) (fun c17 => ?_)
    ·
      refine j_sipush (pc' := 32) (v := -20001) dX6_setFlood_29 rfl rfl ?_
      refine j_reti dX6_setFlood_32 rfl (by first | rfl | exact bi_n _) ?_
      constructor <;> simp (disch := omega) only [okF, nI_clamp, pk_us, pk_un, sHap_o, c7, c17, reduceIte, Bool.false_eq_true, eq_self, and_true, and_false, true_and, false_and, not_true_eq_false, not_false_eq_true, Bool.and_true, Bool.and_false, Bool.true_and, Bool.false_and, ne_eq]
    ·
      refine j_iload_n (pc' := 21) dX6_setFlood_20 rfl rfl ?_
      refine j_iconst (pc' := 22) (v := nI 0) dX6_setFlood_21 rfl rfl ?_
      refine j_iload_n (pc' := 23) dX6_setFlood_22 rfl rfl ?_
      refine j_cSi (pc' := 26) m_X6_32 (c_X6_in E l n kd R _ _ _ _) rfl rfl ⟨Nat.le_of_ble_eq_true rfl, Nat.le_of_ble_eq_true rfl⟩ ⟨Nat.zero_le _, Nat.zero_le _⟩ (Nat.le_of_ble_eq_true rfl) dX6_setFlood_23 rfl (fun x1 I1 hq => ?_)
      obtain ⟨rfl, rfl⟩ := hq
      first | refine j_if_neB (tgt := 33) (pc' := 29) dX6_setFlood_26 rfl (by decide) (fun c26 => ?_) (fun c26 => ?_) | refine j_if_neN (tgt := 33) (pc' := 29) (by omega) dX6_setFlood_26 rfl (by decide) (fun c26 => ?_) (fun c26 => ?_) | refine j_if_ne (tgt := 33) (pc' := 29) dX6_setFlood_26 rfl (by decide) (fun c26 => ?_) (fun c26 => ?_)
      ·
        refine j_aload_n (pc' := 34) dX6_setFlood_33 rfl rfl ?_
        refine j_aload_n (pc' := 35) dX6_setFlood_34 rfl rfl ?_
        refine j_getR (pc' := 38) f_X6_7 (by assumption) (by assumption) dX6_setFlood_35 rfl ?_
        refine j_cVv (pc' := 41) m_X6_40 (c_X6_keeps (row := v) hs K1 (fun _ _ => mI_1) hc hc4) (by assumption) (by decide) rfl rfl rfl ⟨Nat.le_of_ble_eq_true rfl, Nat.le_of_ble_eq_true rfl⟩ ⟨Nat.zero_le _, Nat.zero_le _⟩ (Nat.le_of_ble_eq_true rfl) dX6_setFlood_38 rfl (fun I1 hq => ?_)
        subst hq
        refine j_sipush (pc' := 44) (v := nI 10000) dX6_setFlood_41 rfl rfl ?_
        refine j_aload_n (pc' := 45) dX6_setFlood_44 rfl rfl ?_
        refine j_getR (pc' := 48) f_X6_7 (by assumption) (by assumption) dX6_setFlood_45 rfl ?_
        refine j_iconst (pc' := 49) (v := nI 5) dX6_setFlood_48 rfl rfl ?_
        refine j_ialdv (pc' := 50) (by assumption) rfl (by omega) (by omega) (by first | (simp (disch := omega) only [jx_upS, jx_upK, jx_upA, mI_0, mI_1, mI_2, mI_3, mI_4, mI_5, mI_6, pk_us, pk_un]; rfl) | rfl) dX6_setFlood_49 rfl ?_
        first | refine j_imulN (pc' := 51) dX6_setFlood_50 rfl ?_ | refine j_imul (pc' := 51) dX6_setFlood_50 rfl ?_
        refine j_bipush (pc' := 53) (v := nI 100) dX6_setFlood_51 rfl rfl ?_
        refine j_aload_n (pc' := 54) dX6_setFlood_53 rfl rfl ?_
        refine j_getR (pc' := 57) f_X6_7 (by assumption) (by assumption) dX6_setFlood_54 rfl ?_
        refine j_bipush (pc' := 59) (v := nI 6) dX6_setFlood_57 rfl rfl ?_
        refine j_ialdv (pc' := 60) (by assumption) rfl (by omega) (by omega) (by first | (simp (disch := omega) only [jx_upS, jx_upK, jx_upA, mI_0, mI_1, mI_2, mI_3, mI_4, mI_5, mI_6, pk_us, pk_un]; rfl) | rfl) dX6_setFlood_59 rfl ?_
        first | refine j_imulN (pc' := 61) dX6_setFlood_60 rfl ?_ | refine j_imul (pc' := 61) dX6_setFlood_60 rfl ?_
        first | refine j_iaddN (pc' := 62) dX6_setFlood_61 rfl ?_ | refine j_iadd (pc' := 62) dX6_setFlood_61 rfl ?_
        refine j_aload_n (pc' := 63) dX6_setFlood_62 rfl rfl ?_
        refine j_getR (pc' := 66) f_X6_7 (by assumption) (by assumption) dX6_setFlood_63 rfl ?_
        refine j_bipush (pc' := 68) (v := nI 7) dX6_setFlood_66 rfl rfl ?_
        refine j_ialdv (pc' := 69) (by assumption) rfl (by omega) (by omega) (by first | (simp (disch := omega) only [jx_upS, jx_upK, jx_upA, mI_0, mI_1, mI_2, mI_3, mI_4, mI_5, mI_6, pk_us, pk_un]; rfl) | rfl) dX6_setFlood_68 rfl ?_
        first | refine j_iaddN (pc' := 70) dX6_setFlood_69 rfl ?_ | refine j_iadd (pc' := 70) dX6_setFlood_69 rfl ?_
        refine j_istore (pc' := 72) (lv' := [_, _, _, _, _]) dX6_setFlood_70 rfl (by decide) rfl ?_
        refine j_aload_n (pc' := 73) dX6_setFlood_72 rfl rfl ?_
        refine j_getR (pc' := 76) f_X6_7 (by assumption) (by assumption) dX6_setFlood_73 rfl ?_
        refine j_iconst (pc' := 77) (v := nI 5) dX6_setFlood_76 rfl rfl ?_
        refine j_iload_n (pc' := 78) dX6_setFlood_77 rfl rfl ?_
        refine j_iast (pc' := 79) (by assumption) rfl (by omega) (by omega) dX6_setFlood_78 rfl ?_
        first | refine j_eqI mW_1 ?_ | refine j_eqI mW_2 ?_ | refine j_eqI mW_3 ?_ | refine j_eqI mW_4 ?_ | refine j_eqI mW_5 ?_ | refine j_eqI mW_6 ?_
        refine j_aload_n (pc' := 80) dX6_setFlood_79 rfl rfl ?_
        refine j_getR (pc' := 83) f_X6_7 (by assumption) (by assumption) dX6_setFlood_80 rfl ?_
        refine j_bipush (pc' := 85) (v := nI 6) dX6_setFlood_83 rfl rfl ?_
        refine j_iload_n (pc' := 86) dX6_setFlood_85 rfl rfl ?_
        refine j_iast (pc' := 87) (by assumption) rfl (by omega) (by omega) dX6_setFlood_86 rfl ?_
        first | refine j_eqI mW_1 ?_ | refine j_eqI mW_2 ?_ | refine j_eqI mW_3 ?_ | refine j_eqI mW_4 ?_ | refine j_eqI mW_5 ?_ | refine j_eqI mW_6 ?_
        refine j_aload_n (pc' := 88) dX6_setFlood_87 rfl rfl ?_
        refine j_getR (pc' := 91) f_X6_7 (by assumption) (by assumption) dX6_setFlood_88 rfl ?_
        refine j_bipush (pc' := 93) (v := nI 7) dX6_setFlood_91 rfl rfl ?_
        refine j_iload_n (pc' := 94) dX6_setFlood_93 rfl rfl ?_
        refine j_iast (pc' := 95) (by assumption) rfl (by omega) (by omega) dX6_setFlood_94 rfl ?_
        first | refine j_eqI mW_1 ?_ | refine j_eqI mW_2 ?_ | refine j_eqI mW_3 ?_ | refine j_eqI mW_4 ?_ | refine j_eqI mW_5 ?_ | refine j_eqI mW_6 ?_
        refine j_iload (pc' := 97) dX6_setFlood_95 rfl rfl ?_
        refine j_reti dX6_setFlood_97 rfl (by first | rfl | exact bi_n _) ?_
        constructor <;> simp (disch := omega) only [okF, nI_clamp, pk_us, pk_un, sHap_o, c7, c17, c26, reduceIte, Bool.false_eq_true, eq_self, and_true, and_false, true_and, false_and, not_true_eq_false, not_false_eq_true, Bool.and_true, Bool.and_false, Bool.true_and, Bool.false_and, ne_eq]
      ·
        refine j_sipush (pc' := 32) (v := -20001) dX6_setFlood_29 rfl rfl ?_
        refine j_reti dX6_setFlood_32 rfl (by first | rfl | exact bi_n _) ?_
        constructor <;> simp (disch := omega) only [okF, nI_clamp, pk_us, pk_un, sHap_o, c7, c17, c26, reduceIte, Bool.false_eq_true, eq_self, and_true, and_false, true_and, false_and, not_true_eq_false, not_false_eq_true, Bool.and_true, Bool.and_false, Bool.true_and, Bool.false_and, ne_eq]

