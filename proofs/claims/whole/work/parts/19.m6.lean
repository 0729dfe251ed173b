def cpA (v a : Nat → Int32) : Nat → Int32 := fun j => if j < 1080 then v j else a j
theorem cpVA {I0 : jx_I} {m : Nat} {F v a p o t c : Nat → Int32} : va_up (mI I0 m F v a p o t c) (m + 2) (fun j => if j < 1080 then mI I0 m F v a p o t c (m + 1) j else mI I0 m F v a p o t c (m + 2) j) = mI I0 m F v (cpA v a) p o t c := by
  rw [mI_1, mI_2]
  funext b
  by_cases hb : b = m + 2
  · subst hb
    rw [va_up_self, mI_2]
    rfl
  · rw [va_up_ne _ _ hb]
    simp [mI, hb]
theorem cpAV {I0 : jx_I} {m : Nat} {F v a p o t c : Nat → Int32} : va_up (mI I0 m F v a p o t c) (m + 1) (fun j => if j < 1080 then mI I0 m F v a p o t c (m + 2) j else mI I0 m F v a p o t c (m + 1) j) = mI I0 m F (cpA a v) a p o t c := by
  rw [mI_1, mI_2]
  funext b
  by_cases hb : b = m + 1
  · subst hb
    rw [va_up_self, mI_1]
    rfl
  · rw [va_up_ne _ _ hb]
    simp [mI, hb]

set_option maxRecDepth 100000 in
set_option maxHeartbeats 4000000 in
theorem c_X6_setValue {E : jx_E} {l : Launch} {n : Nat} {kd : jx_K} {R : jx_R} {I0 : jx_I} {m : Nat} {F v a p o t c : Nat → Int32} {k q : Nat} {x y : Int32} (hs : sMd kd R m) (hk : v 0 = nI k) (h16 : k ≤ 16) (hc : F 3 = nI q) (hc4 : q ≤ 4) : jx_Ci E l yX6_setValue cX6_setValue 3 (some .int) 3 n kd R (mI I0 m F v a p o t c) [.ref m, .int x, .int y] (fun r I' => r = (fVal v x y).1 ∧ I' = if isE (fVal v x y).1 = true then mI I0 m F ((fVal v x y).2) (cpA v a) p o t c else mI I0 m (upd F 3 (nI (kpC q))) ((fVal v x y).2) (cpA v a) (kpP p q (cpA v a)) o t c) := by
  obtain ⟨K0, K1, K2, K3, K4, K5, K6, R0, R1, R2, R4, R6, R10⟩ := id hs
  refine jx_C0.ofJ RX6 [some (.ref m), some (.int x), some (.int y)] (by decide) rfl rfl (Nat.le_of_ble_eq_true rfl) rfl ?_
  refine j_aload_n (pc' := 1) dX6_setValue_0 rfl rfl ?_
  refine j_getR (pc' := 4) f_X6_7 (by assumption) (by assumption) dX6_setValue_1 rfl ?_
  refine j_aload_n (pc' := 5) dX6_setValue_4 rfl rfl ?_
  refine j_getR (pc' := 8) f_X6_13 (by assumption) (by assumption) dX6_setValue_5 rfl ?_
  refine j_cSv (pc' := 11) m_X6_67 (c_X6_copies K1 K2 (by omega)) rfl rfl ⟨Nat.le_of_ble_eq_true rfl, Nat.le_of_ble_eq_true rfl⟩ ⟨Nat.zero_le _, Nat.zero_le _⟩ (Nat.le_of_ble_eq_true rfl) dX6_setValue_8 rfl (fun I1 hq => ?_)
  subst hq
  rw [cpVA]
  refine j_aload_n (pc' := 12) dX6_setValue_11 rfl rfl ?_
  refine j_aload_n (pc' := 13) dX6_setValue_12 rfl rfl ?_
  refine j_iload_n (pc' := 14) dX6_setValue_13 rfl rfl ?_
  refine j_iload_n (pc' := 15) dX6_setValue_14 rfl rfl ?_
  refine j_cVi (pc' := 18) m_X6_71 (c_X6_fVal hs hk h16) (by assumption) (by decide) rfl rfl rfl ⟨Nat.le_of_ble_eq_true rfl, Nat.le_of_ble_eq_true rfl⟩ ⟨Nat.zero_le _, Nat.zero_le _⟩ (Nat.le_of_ble_eq_true rfl) dX6_setValue_15 rfl (fun x1 I1 hq => ?_)
  obtain ⟨rfl, rfl⟩ := hq
  refine j_cVi (pc' := 21) m_X6_74 (c_X6_acts hs hc hc4) (by assumption) (by decide) rfl rfl rfl ⟨Nat.le_of_ble_eq_true rfl, Nat.le_of_ble_eq_true rfl⟩ ⟨Nat.zero_le _, Nat.zero_le _⟩ (Nat.le_of_ble_eq_true rfl) dX6_setValue_18 rfl (fun x1 I1 hq => ?_)
  obtain ⟨rfl, rfl⟩ := hq
  refine j_reti dX6_setValue_21 rfl (by first | rfl | exact bi_n _) ?_
  exact ⟨rfl, rfl⟩

set_option maxRecDepth 100000 in
set_option maxHeartbeats 4000000 in
theorem c_X6_setState {E : jx_E} {l : Launch} {n : Nat} {kd : jx_K} {R : jx_R} {I0 : jx_I} {m : Nat} {F v a p o t c : Nat → Int32} {q : Nat} {x : Int32} (hs : sMd kd R m) (hc : F 3 = nI q) (hc4 : q ≤ 4) : jx_Ci E l yX6_setState cX6_setState 2 (some .int) 3 n kd R (mI I0 m F v a p o t c) [.ref m, .int x] (fun r I' => r = (fMod v x).1 ∧ I' = if isE (fMod v x).1 = true then mI I0 m F ((fMod v x).2) (cpA v a) p o t c else mI I0 m (upd F 3 (nI (kpC q))) ((fMod v x).2) (cpA v a) (kpP p q (cpA v a)) o t c) := by
  obtain ⟨K0, K1, K2, K3, K4, K5, K6, R0, R1, R2, R4, R6, R10⟩ := id hs
  refine jx_C0.ofJ RX6 [some (.ref m), some (.int x)] (by decide) rfl rfl (Nat.le_of_ble_eq_true rfl) rfl ?_
  refine j_aload_n (pc' := 1) dX6_setState_0 rfl rfl ?_
  refine j_getR (pc' := 4) f_X6_7 (by assumption) (by assumption) dX6_setState_1 rfl ?_
  refine j_aload_n (pc' := 5) dX6_setState_4 rfl rfl ?_
  refine j_getR (pc' := 8) f_X6_13 (by assumption) (by assumption) dX6_setState_5 rfl ?_
  refine j_cSv (pc' := 11) m_X6_67 (c_X6_copies K1 K2 (by omega)) rfl rfl ⟨Nat.le_of_ble_eq_true rfl, Nat.le_of_ble_eq_true rfl⟩ ⟨Nat.zero_le _, Nat.zero_le _⟩ (Nat.le_of_ble_eq_true rfl) dX6_setState_8 rfl (fun I1 hq => ?_)
  subst hq
  rw [cpVA]
  refine j_aload_n (pc' := 12) dX6_setState_11 rfl rfl ?_
  refine j_aload_n (pc' := 13) dX6_setState_12 rfl rfl ?_
  refine j_iload_n (pc' := 14) dX6_setState_13 rfl rfl ?_
  refine j_cVi (pc' := 17) m_X6_90 (c_X6_fMod hs) (by assumption) (by decide) rfl rfl rfl ⟨Nat.le_of_ble_eq_true rfl, Nat.le_of_ble_eq_true rfl⟩ ⟨Nat.zero_le _, Nat.zero_le _⟩ (Nat.le_of_ble_eq_true rfl) dX6_setState_14 rfl (fun x1 I1 hq => ?_)
  obtain ⟨rfl, rfl⟩ := hq
  refine j_cVi (pc' := 20) m_X6_74 (c_X6_acts hs hc hc4) (by assumption) (by decide) rfl rfl rfl ⟨Nat.le_of_ble_eq_true rfl, Nat.le_of_ble_eq_true rfl⟩ ⟨Nat.zero_le _, Nat.zero_le _⟩ (Nat.le_of_ble_eq_true rfl) dX6_setState_17 rfl (fun x1 I1 hq => ?_)
  obtain ⟨rfl, rfl⟩ := hq
  refine j_reti dX6_setState_20 rfl (by first | rfl | exact bi_n _) ?_
  exact ⟨rfl, rfl⟩

set_option maxRecDepth 100000 in
set_option maxHeartbeats 4000000 in
theorem c_X6_ack {E : jx_E} {l : Launch} {n : Nat} {kd : jx_K} {R : jx_R} {I0 : jx_I} {m : Nat} {F v a p o t c : Nat → Int32} {k q N : Nat} {x : Int32} (hs : sMd kd R m) (hk : v 0 = nI k) (h16 : k ≤ 16) (hc : F 3 = nI q) (hc4 : q ≤ 4) (hN : v 9 = nI N) (hNb : N < 2147483000) : jx_Ci E l yX6_ack cX6_ack 2 (some .int) 3 n kd R (mI I0 m F v a p o t c) [.ref m, .int x] (fun r I' => r = (fAck v x).1 ∧ I' = if isE (fAck v x).1 = true then mI I0 m F ((fAck v x).2) (cpA v a) p o t c else mI I0 m (upd F 3 (nI (kpC q))) ((fAck v x).2) (cpA v a) (kpP p q (cpA v a)) o t c) := by
  obtain ⟨K0, K1, K2, K3, K4, K5, K6, R0, R1, R2, R4, R6, R10⟩ := id hs
  refine jx_C0.ofJ RX6 [some (.ref m), some (.int x)] (by decide) rfl rfl (Nat.le_of_ble_eq_true rfl) rfl ?_
  refine j_aload_n (pc' := 1) dX6_ack_0 rfl rfl ?_
  refine j_getR (pc' := 4) f_X6_7 (by assumption) (by assumption) dX6_ack_1 rfl ?_
  refine j_aload_n (pc' := 5) dX6_ack_4 rfl rfl ?_
  refine j_getR (pc' := 8) f_X6_13 (by assumption) (by assumption) dX6_ack_5 rfl ?_
  refine j_cSv (pc' := 11) m_X6_67 (c_X6_copies K1 K2 (by omega)) rfl rfl ⟨Nat.le_of_ble_eq_true rfl, Nat.le_of_ble_eq_true rfl⟩ ⟨Nat.zero_le _, Nat.zero_le _⟩ (Nat.le_of_ble_eq_true rfl) dX6_ack_8 rfl (fun I1 hq => ?_)
  subst hq
  rw [cpVA]
  refine j_aload_n (pc' := 12) dX6_ack_11 rfl rfl ?_
  refine j_aload_n (pc' := 13) dX6_ack_12 rfl rfl ?_
  refine j_iload_n (pc' := 14) dX6_ack_13 rfl rfl ?_
  refine j_cVi (pc' := 17) m_X6_113 (c_X6_fAck hs hk h16 hN hNb) (by assumption) (by decide) rfl rfl rfl ⟨Nat.le_of_ble_eq_true rfl, Nat.le_of_ble_eq_true rfl⟩ ⟨Nat.zero_le _, Nat.zero_le _⟩ (Nat.le_of_ble_eq_true rfl) dX6_ack_14 rfl (fun x1 I1 hq => ?_)
  obtain ⟨rfl, rfl⟩ := hq
  refine j_cVi (pc' := 20) m_X6_74 (c_X6_acts hs hc hc4) (by assumption) (by decide) rfl rfl rfl ⟨Nat.le_of_ble_eq_true rfl, Nat.le_of_ble_eq_true rfl⟩ ⟨Nat.zero_le _, Nat.zero_le _⟩ (Nat.le_of_ble_eq_true rfl) dX6_ack_17 rfl (fun x1 I1 hq => ?_)
  obtain ⟨rfl, rfl⟩ := hq
  refine j_reti dX6_ack_20 rfl (by first | rfl | exact bi_n _) ?_
  exact ⟨rfl, rfl⟩

set_option maxRecDepth 100000 in
set_option maxHeartbeats 4000000 in
theorem c_X6_shelve {E : jx_E} {l : Launch} {n : Nat} {kd : jx_K} {R : jx_R} {I0 : jx_I} {m : Nat} {F v a p o t c : Nat → Int32} {k q N : Nat} {x y : Int32} (hs : sMd kd R m) (hk : v 0 = nI k) (h16 : k ≤ 16) (hc : F 3 = nI q) (hc4 : q ≤ 4) (hN : v 9 = nI N) (hNb : N < 2147483000) : jx_Ci E l yX6_shelve cX6_shelve 3 (some .int) 3 n kd R (mI I0 m F v a p o t c) [.ref m, .int x, .int y] (fun r I' => r = (fShv v x y).1 ∧ I' = if isE (fShv v x y).1 = true then mI I0 m F ((fShv v x y).2) (cpA v a) p o t c else mI I0 m (upd F 3 (nI (kpC q))) ((fShv v x y).2) (cpA v a) (kpP p q (cpA v a)) o t c) := by
  obtain ⟨K0, K1, K2, K3, K4, K5, K6, R0, R1, R2, R4, R6, R10⟩ := id hs
  refine jx_C0.ofJ RX6 [some (.ref m), some (.int x), some (.int y)] (by decide) rfl rfl (Nat.le_of_ble_eq_true rfl) rfl ?_
  refine j_aload_n (pc' := 1) dX6_shelve_0 rfl rfl ?_
  refine j_getR (pc' := 4) f_X6_7 (by assumption) (by assumption) dX6_shelve_1 rfl ?_
  refine j_aload_n (pc' := 5) dX6_shelve_4 rfl rfl ?_
  refine j_getR (pc' := 8) f_X6_13 (by assumption) (by assumption) dX6_shelve_5 rfl ?_
  refine j_cSv (pc' := 11) m_X6_67 (c_X6_copies K1 K2 (by omega)) rfl rfl ⟨Nat.le_of_ble_eq_true rfl, Nat.le_of_ble_eq_true rfl⟩ ⟨Nat.zero_le _, Nat.zero_le _⟩ (Nat.le_of_ble_eq_true rfl) dX6_shelve_8 rfl (fun I1 hq => ?_)
  subst hq
  rw [cpVA]
  refine j_aload_n (pc' := 12) dX6_shelve_11 rfl rfl ?_
  refine j_aload_n (pc' := 13) dX6_shelve_12 rfl rfl ?_
  refine j_iload_n (pc' := 14) dX6_shelve_13 rfl rfl ?_
  refine j_iload_n (pc' := 15) dX6_shelve_14 rfl rfl ?_
  refine j_cVi (pc' := 18) m_X6_125 (c_X6_fShv hs hk h16 hN hNb) (by assumption) (by decide) rfl rfl rfl ⟨Nat.le_of_ble_eq_true rfl, Nat.le_of_ble_eq_true rfl⟩ ⟨Nat.zero_le _, Nat.zero_le _⟩ (Nat.le_of_ble_eq_true rfl) dX6_shelve_15 rfl (fun x1 I1 hq => ?_)
  obtain ⟨rfl, rfl⟩ := hq
  refine j_cVi (pc' := 21) m_X6_74 (c_X6_acts hs hc hc4) (by assumption) (by decide) rfl rfl rfl ⟨Nat.le_of_ble_eq_true rfl, Nat.le_of_ble_eq_true rfl⟩ ⟨Nat.zero_le _, Nat.zero_le _⟩ (Nat.le_of_ble_eq_true rfl) dX6_shelve_18 rfl (fun x1 I1 hq => ?_)
  obtain ⟨rfl, rfl⟩ := hq
  refine j_reti dX6_shelve_21 rfl (by first | rfl | exact bi_n _) ?_
  exact ⟨rfl, rfl⟩

def fUns (v : Nat → Int32) (x : Int32) : Int32 × (Nat → Int32) :=
  if okP v x = true then
    if v (176 + 56 * x.toNatClampNeg + 13) = 0 then (-20002, v)
    else (v (176 + 56 * x.toNatClampNeg + 13) - v 1, sHap (upd v (176 + 56 * x.toNatClampNeg + 13) (nI 0)) (nI 5) x)
  else (-20001, v)
def okF (x y z : Int32) : Bool := decide (nI 1 ≤ x ∧ x ≤ nI 60) && (decide (nI 1 ≤ y ∧ y ≤ nI 50) && decide (nI 0 ≤ z ∧ z ≤ y))
def okS (s x : Int32) : Bool :=
  if s = nI 0 then decide (nI 0 ≤ x ∧ x ≤ nI 1) else if s = nI 1 then okV x else if s = nI 2 then decide (nI 0 ≤ x ∧ x ≤ nI 1000) else if s = nI 3 then decide (nI 0 ≤ x ∧ x ≤ nI 20) else if s = nI 4 then decide (nI 0 ≤ x ∧ x ≤ nI 20) else if s = nI 5 then decide (nI 1 ≤ x ∧ x ≤ nI 4) else if s = nI 6 then decide (nI 0 ≤ x ∧ x ≤ nI 15) else false
/-- kept in the history if something was done -/
def isKept (r : Int32) : Bool := !(decide (r = -20001) || decide (r = -20002) || decide (r = -20003))

set_option maxRecDepth 100000 in
set_option maxHeartbeats 4000000 in
theorem c_X6_unshelve {E : jx_E} {l : Launch} {n : Nat} {kd : jx_K} {R : jx_R} {I0 : jx_I} {m : Nat} {F v a p o t c : Nat → Int32} {k q N : Nat} {x : Int32} (hs : sMd kd R m) (hk : v 0 = nI k) (h16 : k ≤ 16) (hc : F 3 = nI q) (hc4 : q ≤ 4) (hN : v 9 = nI N) (hNb : N < 2147483000) : jx_Ci E l yX6_unshelve cX6_unshelve 3 (some .int) 2 n kd R (mI I0 m F v a p o t c) [.ref m, .int x] (fun r I' => r = (fUns v x).1 ∧ I' = if okP v x = true ∧ ¬ v (176 + 56 * x.toNatClampNeg + 13) = 0 then mI I0 m (upd F 3 (nI (kpC q))) ((fUns v x).2) a (kpP p q v) o t c else mI I0 m F v a p o t c) := by
  obtain ⟨K0, K1, K2, K3, K4, K5, K6, R0, R1, R2, R4, R6, R10⟩ := id hs
  refine jx_C0.ofJ RX6 [some (.ref m), some (.int x), none] (by decide) rfl rfl (Nat.le_of_ble_eq_true rfl) rfl ?_
  refine j_aload_n (pc' := 1) dX6_unshelve_0 rfl rfl ?_
  refine j_iload_n (pc' := 2) dX6_unshelve_1 rfl rfl ?_
  refine j_cVi (pc' := 5) m_X6_52 (c_X6_isPoint hs) (by assumption) (by decide) rfl rfl rfl ⟨Nat.le_of_ble_eq_true rfl, Nat.le_of_ble_eq_true rfl⟩ ⟨Nat.zero_le _, Nat.zero_le _⟩ (Nat.le_of_ble_eq_true rfl) dX6_unshelve_2 rfl (fun x1 I1 hq => ?_)
  obtain ⟨rfl, rfl⟩ := hq
  first | refine j_if_neB' (tgt := 12) (pc' := 8) (by with_reducible rfl) dX6_unshelve_5 rfl (by decide) (fun c5 => ?_) (fun c5 => ?_) | refine j_if_neN' (tgt := 12) (pc' := 8) (by with_reducible rfl) (by omega) dX6_unshelve_5 rfl (by decide) (fun c5 => ?_) (fun c5 => ?_) | refine j_if_ne (tgt := 12) (pc' := 8) dX6_unshelve_5 rfl (by decide) (fun c5 => ?_) (fun c5 => ?_)
  ·
    have hok := c5
    obtain ⟨i, hi, rfl⟩ := okP_nat hk h16 c5
    refine j_aload_n (pc' := 13) dX6_unshelve_12 rfl rfl ?_
    refine j_iload_n (pc' := 14) dX6_unshelve_13 rfl rfl ?_
    refine j_bipush (pc' := 16) (v := nI 13) dX6_unshelve_14 rfl rfl ?_
    refine j_cVi (pc' := 19) m_X6_59 (c_X6_of hs (by omega) (by omega)) (by assumption) (by decide) rfl rfl rfl ⟨Nat.le_of_ble_eq_true rfl, Nat.le_of_ble_eq_true rfl⟩ ⟨Nat.zero_le _, Nat.zero_le _⟩ (Nat.le_of_ble_eq_true rfl) dX6_unshelve_16 rfl (fun x1 I1 hq => ?_)
    obtain ⟨rfl, rfl⟩ := hq
    first | refine j_if_neB' (tgt := 26) (pc' := 22) (by with_reducible rfl) dX6_unshelve_19 rfl (by decide) (fun c19 => ?_) (fun c19 => ?_) | refine j_if_neN' (tgt := 26) (pc' := 22) (by with_reducible rfl) (by omega) dX6_unshelve_19 rfl (by decide) (fun c19 => ?_) (fun c19 => ?_) | refine j_if_ne (tgt := 26) (pc' := 22) dX6_unshelve_19 rfl (by decide) (fun c19 => ?_) (fun c19 => ?_)
    ·
      refine j_aload_n (pc' := 27) dX6_unshelve_26 rfl rfl ?_
      refine j_aload_n (pc' := 28) dX6_unshelve_27 rfl rfl ?_
      refine j_getR (pc' := 31) f_X6_7 (by assumption) (by assumption) dX6_unshelve_28 rfl ?_
      refine j_cVv (pc' := 34) m_X6_40 (c_X6_keeps (row := v) hs K1 (fun _ _ => mI_1) hc hc4) (by assumption) (by decide) rfl rfl rfl ⟨Nat.le_of_ble_eq_true rfl, Nat.le_of_ble_eq_true rfl⟩ ⟨Nat.zero_le _, Nat.zero_le _⟩ (Nat.le_of_ble_eq_true rfl) dX6_unshelve_31 rfl (fun I1 hq => ?_)
      subst hq
      refine j_aload_n (pc' := 35) dX6_unshelve_34 rfl rfl ?_
      refine j_iload_n (pc' := 36) dX6_unshelve_35 rfl rfl ?_
      refine j_bipush (pc' := 38) (v := nI 13) dX6_unshelve_36 rfl rfl ?_
      refine j_cVi (pc' := 41) m_X6_59 (c_X6_of hs (by omega) (by omega)) (by assumption) (by decide) rfl rfl rfl ⟨Nat.le_of_ble_eq_true rfl, Nat.le_of_ble_eq_true rfl⟩ ⟨Nat.zero_le _, Nat.zero_le _⟩ (Nat.le_of_ble_eq_true rfl) dX6_unshelve_38 rfl (fun x1 I1 hq => ?_)
      obtain ⟨rfl, rfl⟩ := hq
      refine j_aload_n (pc' := 42) dX6_unshelve_41 rfl rfl ?_
      refine j_getR (pc' := 45) f_X6_7 (by assumption) (by assumption) dX6_unshelve_42 rfl ?_
      refine j_iconst (pc' := 46) (v := nI 1) dX6_unshelve_45 rfl rfl ?_
      refine j_ialdv (pc' := 47) (by assumption) rfl (by omega) (by omega) (by first | (simp (disch := omega) only [jx_upS, jx_upK, jx_upA, mI_0, mI_1, mI_2, mI_3, mI_4, mI_5, mI_6, pk_us, pk_un]; rfl) | rfl) dX6_unshelve_46 rfl ?_
      first | refine j_isubN' (pc' := 48) (by with_reducible rfl) (by with_reducible rfl) (by omega) dX6_unshelve_47 rfl ?_ | refine j_isub (pc' := 48) dX6_unshelve_47 rfl ?_
      refine j_istore_n (pc' := 49) (lv' := [_, _, _]) dX6_unshelve_48 rfl (by decide) rfl ?_
      refine j_aload_n (pc' := 50) dX6_unshelve_49 rfl rfl ?_
      refine j_iload_n (pc' := 51) dX6_unshelve_50 rfl rfl ?_
      refine j_cVv (pc' := 54) m_X6_63 (c_X6_leavesShelf hs (by omega) (N := N) (by simp (disch := omega) only [pk_us, pk_un, hN]) hNb) (by assumption) (by decide) rfl rfl rfl ⟨Nat.le_of_ble_eq_true rfl, Nat.le_of_ble_eq_true rfl⟩ ⟨Nat.zero_le _, Nat.zero_le _⟩ (Nat.le_of_ble_eq_true rfl) dX6_unshelve_51 rfl (fun I1 hq => ?_)
      subst hq
      refine j_iload_n (pc' := 55) dX6_unshelve_54 rfl rfl ?_
      refine j_reti dX6_unshelve_55 rfl (by first | rfl | exact bi_n _) ?_
      constructor <;> simp (disch := omega) only [fUns, nI_clamp, pk_us, pk_un, sHap_o, hok, c5, c19, reduceIte, Bool.false_eq_true, eq_self, and_true, and_false, true_and, false_and, not_true_eq_false, not_false_eq_true, Bool.and_true, Bool.and_false, Bool.true_and, Bool.false_and, ne_eq]
    ·
      refine j_sipush (pc' := 25) (v := -20002) dX6_unshelve_22 rfl rfl ?_
      refine j_reti dX6_unshelve_25 rfl (by first | rfl | exact bi_n _) ?_
      constructor <;> simp (disch := omega) only [fUns, nI_clamp, pk_us, pk_un, sHap_o, hok, c5, c19, reduceIte, Bool.false_eq_true, eq_self, and_true, and_false, true_and, false_and, not_true_eq_false, not_false_eq_true, Bool.and_true, Bool.and_false, Bool.true_and, Bool.false_and, ne_eq]
  ·
    refine j_sipush (pc' := 11) (v := -20001) dX6_unshelve_8 rfl rfl ?_
    refine j_reti dX6_unshelve_11 rfl (by first | rfl | exact bi_n _) ?_
    constructor <;> simp (disch := omega) only [fUns, nI_clamp, pk_us, pk_un, sHap_o, c5, reduceIte, Bool.false_eq_true, eq_self, and_true, and_false, true_and, false_and, not_true_eq_false, not_false_eq_true, Bool.and_true, Bool.and_false, Bool.true_and, Bool.false_and, ne_eq]

set_option maxRecDepth 100000 in
set_option maxHeartbeats 4000000 in
theorem c_X6_setFlood {E : jx_E} {l : Launch} {n : Nat} {kd : jx_K} {R : jx_R} {I0 : jx_I} {m : Nat} {F v a p o t c : Nat → Int32} {q : Nat} {x y z : Int32} (hs : sMd kd R m) (hc : F 3 = nI q) (hc4 : q ≤ 4) : jx_Ci E l yX6_setFlood cX6_setFlood 5 (some .int) 1 n kd R (mI I0 m F v a p o t c) [.ref m, .int x, .int y, .int z] (fun r I' => r = (if okF x y z = true then nI 10000 * v 5 + nI 100 * v 6 + v 7 else -20001) ∧ I' = if okF x y z = true then mI I0 m (upd F 3 (nI (kpC q))) (upd (upd (upd v 5 x) 6 y) 7 z) a (kpP p q v) o t c else mI I0 m F v a p o t c) := by
  obtain ⟨K0, K1, K2, K3, K4, K5, K6, R0, R1, R2, R4, R6, R10⟩ := id hs
  refine jx_C0.ofJ RX6 [some (.ref m), some (.int x), some (.int y), some (.int z), none] (by decide) rfl rfl (Nat.le_of_ble_eq_true rfl) rfl ?_
  refine j_iload_n (pc' := 1) dX6_setFlood_0 rfl rfl ?_
  refine j_iconst (pc' := 2) (v := nI 1) dX6_setFlood_1 rfl rfl ?_
  refine j_bipush (pc' := 4) (v := nI 60) dX6_setFlood_2 rfl rfl ?_
  refine j_cSi (pc' := 7) m_X6_32 (c_X6_in E l n kd R _ _ _ _) rfl rfl ⟨Nat.le_of_ble_eq_true rfl, Nat.le_of_ble_eq_true rfl⟩ ⟨Nat.zero_le _, Nat.zero_le _⟩ (Nat.le_of_ble_eq_true rfl) dX6_setFlood_4 rfl (fun x1 I1 hq => ?_)
  obtain ⟨rfl, rfl⟩ := hq
  first | refine j_if_eqB' (tgt := 29) (pc' := 10) (by with_reducible rfl) dX6_setFlood_7 rfl (by decide) (fun c7 => ?_) (fun c7 => ?_) | refine j_if_eqN' (tgt := 29) (pc' := 10) (by with_reducible rfl) (by omega) dX6_setFlood_7 rfl (by decide) (fun c7 => ?_) (fun c7 => ?_) | refine j_if_eq (tgt := 29) (pc' := 10) dX6_setFlood_7 rfl (by decide) (fun c7 => ?_) (fun c7 => ?_)
  ·
    refine j_sipush (pc' := 32) (v := -20001) dX6_setFlood_29 rfl rfl ?_
    refine j_reti dX6_setFlood_32 rfl (by first | rfl | exact bi_n _) ?_
    constructor <;> simp (disch := omega) only [okF, nI_clamp, pk_us, pk_un, sHap_o, c7, reduceIte, Bool.false_eq_true, eq_self, and_true, and_false, true_and, false_and, not_true_eq_false, not_false_eq_true, Bool.and_true, Bool.and_false, Bool.true_and, Bool.false_and, ne_eq]
  ·
    refine j_iload_n (pc' := 11) dX6_setFlood_10 rfl rfl ?_
    refine j_iconst (pc' := 12) (v := nI 1) dX6_setFlood_11 rfl rfl ?_
    refine j_bipush (pc' := 14) (v := nI 50) dX6_setFlood_12 rfl rfl ?_
    refine j_cSi (pc' := 17) m_X6_32 (c_X6_in E l n kd R _ _ _ _) rfl rfl ⟨Nat.le_of_ble_eq_true rfl, Nat.le_of_ble_eq_true rfl⟩ ⟨Nat.zero_le _, Nat.zero_le _⟩ (Nat.le_of_ble_eq_true rfl) dX6_setFlood_14 rfl (fun x1 I1 hq => ?_)
    obtain ⟨rfl, rfl⟩ := hq
    first | refine j_if_eqB' (tgt := 29) (pc' := 20) (by with_reducible rfl) dX6_setFlood_17 rfl (by decide) (fun c17 => ?_) (fun c17 => ?_) | refine j_if_eqN' (tgt := 29) (pc' := 20) (by with_reducible rfl) (by omega) dX6_setFlood_17 rfl (by decide) (fun c17 => ?_) (fun c17 => ?_) | refine j_if_eq (tgt := 29) (pc' := 20) dX6_setFlood_17 rfl (by decide) (fun c17 => ?_) (fun c17 => ?_)
    ·
      refine j_sipush (pc' := 32) (v := -20001) dX6_setFlood_29 rfl rfl ?_
      refine j_reti dX6_setFlood_32 rfl (by first | rfl | exact bi_n _) ?_
      constructor <;> simp (disch := omega) only [okF, nI_clamp, pk_us, pk_un, sHap_o, c7, c17, reduceIte, Bool.false_eq_true, eq_self, and_true, and_false, true_and, false_and, not_true_eq_false, not_false_eq_true, Bool.and_true, Bool.and_false, Bool.true_and, Bool.false_and, ne_eq]
    ·
      refine j_iload_n (pc' := 21) dX6_setFlood_20 rfl rfl ?_
      refine j_iconst (pc' := 22) (v := nI 0) dX6_setFlood_21 rfl rfl ?_
      refine j_iload_n (pc' := 23) dX6_setFlood_22 rfl rfl ?_
      refine j_cSi (pc' := 26) m_X6_32 (c_X6_in E l n kd R _ _ _ _) rfl rfl ⟨Nat.le_of_ble_eq_true rfl, Nat.le_of_ble_eq_true rfl⟩ ⟨Nat.zero_le _, Nat.zero_le _⟩ (Nat.le_of_ble_eq_true rfl) dX6_setFlood_23 rfl (fun x1 I1 hq => ?_)
      obtain ⟨rfl, rfl⟩ := hq
      first | refine j_if_neB' (tgt := 33) (pc' := 29) (by with_reducible rfl) dX6_setFlood_26 rfl (by decide) (fun c26 => ?_) (fun c26 => ?_) | refine j_if_neN' (tgt := 33) (pc' := 29) (by with_reducible rfl) (by omega) dX6_setFlood_26 rfl (by decide) (fun c26 => ?_) (fun c26 => ?_) | refine j_if_ne (tgt := 33) (pc' := 29) dX6_setFlood_26 rfl (by decide) (fun c26 => ?_) (fun c26 => ?_)
      ·
        refine j_aload_n (pc' := 34) dX6_setFlood_33 rfl rfl ?_
        refine j_aload_n (pc' := 35) dX6_setFlood_34 rfl rfl ?_
        refine j_getR (pc' := 38) f_X6_7 (by assumption) (by assumption) dX6_setFlood_35 rfl ?_
        refine j_cVv (pc' := 41) m_X6_40 (c_X6_keeps (row := v) hs K1 (fun _ _ => mI_1) hc hc4) (by assumption) (by decide) rfl rfl rfl ⟨Nat.le_of_ble_eq_true rfl, Nat.le_of_ble_eq_true rfl⟩ ⟨Nat.zero_le _, Nat.zero_le _⟩ (Nat.le_of_ble_eq_true rfl) dX6_setFlood_38 rfl (fun I1 hq => ?_)
        subst hq
        refine j_sipush (pc' := 44) (v := nI 10000) dX6_setFlood_41 rfl rfl ?_
        refine j_aload_n (pc' := 45) dX6_setFlood_44 rfl rfl ?_
        refine j_getR (pc' := 48) f_X6_7 (by assumption) (by assumption) dX6_setFlood_45 rfl ?_
        refine j_iconst (pc' := 49) (v := nI 5) dX6_setFlood_48 rfl rfl ?_
        refine j_ialdv (pc' := 50) (by assumption) rfl (by omega) (by omega) (by first | (simp (disch := omega) only [jx_upS, jx_upK, jx_upA, mI_0, mI_1, mI_2, mI_3, mI_4, mI_5, mI_6, pk_us, pk_un]; rfl) | rfl) dX6_setFlood_49 rfl ?_
        refine j_imul (pc' := 51) dX6_setFlood_50 rfl ?_
        refine j_bipush (pc' := 53) (v := nI 100) dX6_setFlood_51 rfl rfl ?_
        refine j_aload_n (pc' := 54) dX6_setFlood_53 rfl rfl ?_
        refine j_getR (pc' := 57) f_X6_7 (by assumption) (by assumption) dX6_setFlood_54 rfl ?_
        refine j_bipush (pc' := 59) (v := nI 6) dX6_setFlood_57 rfl rfl ?_
        refine j_ialdv (pc' := 60) (by assumption) rfl (by omega) (by omega) (by first | (simp (disch := omega) only [jx_upS, jx_upK, jx_upA, mI_0, mI_1, mI_2, mI_3, mI_4, mI_5, mI_6, pk_us, pk_un]; rfl) | rfl) dX6_setFlood_59 rfl ?_
        refine j_imul (pc' := 61) dX6_setFlood_60 rfl ?_
        refine j_iadd (pc' := 62) dX6_setFlood_61 rfl ?_
        refine j_aload_n (pc' := 63) dX6_setFlood_62 rfl rfl ?_
        refine j_getR (pc' := 66) f_X6_7 (by assumption) (by assumption) dX6_setFlood_63 rfl ?_
        refine j_bipush (pc' := 68) (v := nI 7) dX6_setFlood_66 rfl rfl ?_
        refine j_ialdv (pc' := 69) (by assumption) rfl (by omega) (by omega) (by first | (simp (disch := omega) only [jx_upS, jx_upK, jx_upA, mI_0, mI_1, mI_2, mI_3, mI_4, mI_5, mI_6, pk_us, pk_un]; rfl) | rfl) dX6_setFlood_68 rfl ?_
        refine j_iadd (pc' := 70) dX6_setFlood_69 rfl ?_
        refine j_istore (pc' := 72) (lv' := [_, _, _, _, _]) dX6_setFlood_70 rfl (by decide) rfl ?_
        refine j_aload_n (pc' := 73) dX6_setFlood_72 rfl rfl ?_
        refine j_getR (pc' := 76) f_X6_7 (by assumption) (by assumption) dX6_setFlood_73 rfl ?_
        refine j_iconst (pc' := 77) (v := nI 5) dX6_setFlood_76 rfl rfl ?_
        refine j_iload_n (pc' := 78) dX6_setFlood_77 rfl rfl ?_
        refine j_iast (pc' := 79) (by assumption) rfl (by omega) (by omega) dX6_setFlood_78 rfl ?_
        first | refine j_eqI mW_1 ?_ | refine j_eqI mW_2 ?_ | refine j_eqI mW_3 ?_ | refine j_eqI mW_4 ?_ | refine j_eqI mW_5 ?_ | refine j_eqI mW_6 ?_
        refine j_aload_n (pc' := 80) dX6_setFlood_79 rfl rfl ?_
        refine j_getR (pc' := 83) f_X6_7 (by assumption) (by assumption) dX6_setFlood_80 rfl ?_
        refine j_bipush (pc' := 85) (v := nI 6) dX6_setFlood_83 rfl rfl ?_
        refine j_iload_n (pc' := 86) dX6_setFlood_85 rfl rfl ?_
        refine j_iast (pc' := 87) (by assumption) rfl (by omega) (by omega) dX6_setFlood_86 rfl ?_
        first | refine j_eqI mW_1 ?_ | refine j_eqI mW_2 ?_ | refine j_eqI mW_3 ?_ | refine j_eqI mW_4 ?_ | refine j_eqI mW_5 ?_ | refine j_eqI mW_6 ?_
        refine j_aload_n (pc' := 88) dX6_setFlood_87 rfl rfl ?_
        refine j_getR (pc' := 91) f_X6_7 (by assumption) (by assumption) dX6_setFlood_88 rfl ?_
        refine j_bipush (pc' := 93) (v := nI 7) dX6_setFlood_91 rfl rfl ?_
        refine j_iload_n (pc' := 94) dX6_setFlood_93 rfl rfl ?_
        refine j_iast (pc' := 95) (by assumption) rfl (by omega) (by omega) dX6_setFlood_94 rfl ?_
        first | refine j_eqI mW_1 ?_ | refine j_eqI mW_2 ?_ | refine j_eqI mW_3 ?_ | refine j_eqI mW_4 ?_ | refine j_eqI mW_5 ?_ | refine j_eqI mW_6 ?_
        refine j_iload (pc' := 97) dX6_setFlood_95 rfl rfl ?_
        refine j_reti dX6_setFlood_97 rfl (by first | rfl | exact bi_n _) ?_
        constructor <;> simp (disch := omega) only [okF, nI_clamp, pk_us, pk_un, sHap_o, c7, c17, c26, reduceIte, Bool.false_eq_true, eq_self, and_true, and_false, true_and, false_and, not_true_eq_false, not_false_eq_true, Bool.and_true, Bool.and_false, Bool.true_and, Bool.false_and, ne_eq]
      ·
        refine j_sipush (pc' := 32) (v := -20001) dX6_setFlood_29 rfl rfl ?_
        refine j_reti dX6_setFlood_32 rfl (by first | rfl | exact bi_n _) ?_
        constructor <;> simp (disch := omega) only [okF, nI_clamp, pk_us, pk_un, sHap_o, c7, c17, c26, reduceIte, Bool.false_eq_true, eq_self, and_true, and_false, true_and, false_and, not_true_eq_false, not_false_eq_true, Bool.and_true, Bool.and_false, Bool.true_and, Bool.false_and, ne_eq]

set_option maxRecDepth 100000 in
set_option maxHeartbeats 4000000 in
theorem c_X6_isIn (E : jx_E) (l : Launch) (n : Nat) (kd : jx_K) (R : jx_R) (I : jx_I) (s x : Int32)  : jx_Ci E l yX6_isIn cX6_isIn 2 (some .boolean) 2 n kd R I [.int s, .int x] (fun r I' => r = bi (okS s x) ∧ I' = I) := by
  refine jx_C0.ofJ RX6 [some (.int s), some (.int x)] (by decide) rfl rfl (Nat.le_of_ble_eq_true rfl) rfl ?_
  refine j_iload_n (pc' := 1) dX6_isIn_0 rfl rfl ?_
  by_cases t0 : s = nI 0
  ·
    refine j_tableIn (tgt := 40) (off := 39) dX6_isIn_1 (by rw [t0]; decide) (by rw [t0]; decide) (by rw [t0]; rfl) (by decide) ?_
    refine j_iload_n (pc' := 41) dX6_isIn_40 rfl rfl ?_
    refine j_iconst (pc' := 42) (v := nI 0) dX6_isIn_41 rfl rfl ?_
    refine j_iconst (pc' := 43) (v := nI 1) dX6_isIn_42 rfl rfl ?_
    refine j_cSi (pc' := 46) m_X6_32 (c_X6_in E l n kd R _ _ _ _) rfl rfl ⟨Nat.le_of_ble_eq_true rfl, Nat.le_of_ble_eq_true rfl⟩ ⟨Nat.zero_le _, Nat.zero_le _⟩ (Nat.le_of_ble_eq_true rfl) dX6_isIn_43 rfl (fun x1 I1 hq => ?_)
    obtain ⟨rfl, rfl⟩ := hq
    refine j_reti dX6_isIn_46 rfl (by first | rfl | exact bi_n _) ?_
    refine ⟨?_, rfl⟩
    unfold okS
    first | rw [if_pos t0] | rw [if_neg t0] | skip
    
  ·
    by_cases t1 : s = nI 1
    ·
      refine j_tableIn (tgt := 47) (off := 46) dX6_isIn_1 (by rw [t1]; decide) (by rw [t1]; decide) (by rw [t1]; rfl) (by decide) ?_
      refine j_iload_n (pc' := 48) dX6_isIn_47 rfl rfl ?_
      refine j_cSi (pc' := 51) m_X6_36 (c_X6_isValue E l n kd R _ _) rfl rfl ⟨Nat.le_of_ble_eq_true rfl, Nat.le_of_ble_eq_true rfl⟩ ⟨Nat.zero_le _, Nat.zero_le _⟩ (Nat.le_of_ble_eq_true rfl) dX6_isIn_48 rfl (fun x1 I1 hq => ?_)
      obtain ⟨rfl, rfl⟩ := hq
      refine j_reti dX6_isIn_51 rfl (by first | rfl | exact bi_n _) ?_
      refine ⟨?_, rfl⟩
      unfold okS
      first | rw [if_pos t0] | rw [if_neg t0] | skip
      first | rw [if_pos t1] | rw [if_neg t1] | skip
      
    ·
      by_cases t2 : s = nI 2
      ·
        refine j_tableIn (tgt := 52) (off := 51) dX6_isIn_1 (by rw [t2]; decide) (by rw [t2]; decide) (by rw [t2]; rfl) (by decide) ?_
        refine j_iload_n (pc' := 53) dX6_isIn_52 rfl rfl ?_
        refine j_iconst (pc' := 54) (v := nI 0) dX6_isIn_53 rfl rfl ?_
        refine j_sipush (pc' := 57) (v := nI 1000) dX6_isIn_54 rfl rfl ?_
        refine j_cSi (pc' := 60) m_X6_32 (c_X6_in E l n kd R _ _ _ _) rfl rfl ⟨Nat.le_of_ble_eq_true rfl, Nat.le_of_ble_eq_true rfl⟩ ⟨Nat.zero_le _, Nat.zero_le _⟩ (Nat.le_of_ble_eq_true rfl) dX6_isIn_57 rfl (fun x1 I1 hq => ?_)
        obtain ⟨rfl, rfl⟩ := hq
        refine j_reti dX6_isIn_60 rfl (by first | rfl | exact bi_n _) ?_
        refine ⟨?_, rfl⟩
        unfold okS
        first | rw [if_pos t0] | rw [if_neg t0] | skip
        first | rw [if_pos t1] | rw [if_neg t1] | skip
        first | rw [if_pos t2] | rw [if_neg t2] | skip
        
      ·
        by_cases t3 : s = nI 3
        ·
          refine j_tableIn (tgt := 61) (off := 60) dX6_isIn_1 (by rw [t3]; decide) (by rw [t3]; decide) (by rw [t3]; rfl) (by decide) ?_
          refine j_iload_n (pc' := 62) dX6_isIn_61 rfl rfl ?_
          refine j_iconst (pc' := 63) (v := nI 0) dX6_isIn_62 rfl rfl ?_
          refine j_bipush (pc' := 65) (v := nI 20) dX6_isIn_63 rfl rfl ?_
          refine j_cSi (pc' := 68) m_X6_32 (c_X6_in E l n kd R _ _ _ _) rfl rfl ⟨Nat.le_of_ble_eq_true rfl, Nat.le_of_ble_eq_true rfl⟩ ⟨Nat.zero_le _, Nat.zero_le _⟩ (Nat.le_of_ble_eq_true rfl) dX6_isIn_65 rfl (fun x1 I1 hq => ?_)
          obtain ⟨rfl, rfl⟩ := hq
          refine j_reti dX6_isIn_68 rfl (by first | rfl | exact bi_n _) ?_
          refine ⟨?_, rfl⟩
          unfold okS
          first | rw [if_pos t0] | rw [if_neg t0] | skip
          first | rw [if_pos t1] | rw [if_neg t1] | skip
          first | rw [if_pos t2] | rw [if_neg t2] | skip
          first | rw [if_pos t3] | rw [if_neg t3] | skip
          
        ·
          by_cases t4 : s = nI 4
          ·
            refine j_tableIn (tgt := 69) (off := 68) dX6_isIn_1 (by rw [t4]; decide) (by rw [t4]; decide) (by rw [t4]; rfl) (by decide) ?_
            refine j_iload_n (pc' := 70) dX6_isIn_69 rfl rfl ?_
            refine j_iconst (pc' := 71) (v := nI 0) dX6_isIn_70 rfl rfl ?_
            refine j_bipush (pc' := 73) (v := nI 20) dX6_isIn_71 rfl rfl ?_
            refine j_cSi (pc' := 76) m_X6_32 (c_X6_in E l n kd R _ _ _ _) rfl rfl ⟨Nat.le_of_ble_eq_true rfl, Nat.le_of_ble_eq_true rfl⟩ ⟨Nat.zero_le _, Nat.zero_le _⟩ (Nat.le_of_ble_eq_true rfl) dX6_isIn_73 rfl (fun x1 I1 hq => ?_)
            obtain ⟨rfl, rfl⟩ := hq
            refine j_reti dX6_isIn_76 rfl (by first | rfl | exact bi_n _) ?_
            refine ⟨?_, rfl⟩
            unfold okS
            first | rw [if_pos t0] | rw [if_neg t0] | skip
            first | rw [if_pos t1] | rw [if_neg t1] | skip
            first | rw [if_pos t2] | rw [if_neg t2] | skip
            first | rw [if_pos t3] | rw [if_neg t3] | skip
            first | rw [if_pos t4] | rw [if_neg t4] | skip
            
          ·
            by_cases t5 : s = nI 5
            ·
              refine j_tableIn (tgt := 77) (off := 76) dX6_isIn_1 (by rw [t5]; decide) (by rw [t5]; decide) (by rw [t5]; rfl) (by decide) ?_
              refine j_iload_n (pc' := 78) dX6_isIn_77 rfl rfl ?_
              refine j_iconst (pc' := 79) (v := nI 1) dX6_isIn_78 rfl rfl ?_
              refine j_iconst (pc' := 80) (v := nI 4) dX6_isIn_79 rfl rfl ?_
              refine j_cSi (pc' := 83) m_X6_32 (c_X6_in E l n kd R _ _ _ _) rfl rfl ⟨Nat.le_of_ble_eq_true rfl, Nat.le_of_ble_eq_true rfl⟩ ⟨Nat.zero_le _, Nat.zero_le _⟩ (Nat.le_of_ble_eq_true rfl) dX6_isIn_80 rfl (fun x1 I1 hq => ?_)
              obtain ⟨rfl, rfl⟩ := hq
              refine j_reti dX6_isIn_83 rfl (by first | rfl | exact bi_n _) ?_
              refine ⟨?_, rfl⟩
              unfold okS
              first | rw [if_pos t0] | rw [if_neg t0] | skip
              first | rw [if_pos t1] | rw [if_neg t1] | skip
              first | rw [if_pos t2] | rw [if_neg t2] | skip
              first | rw [if_pos t3] | rw [if_neg t3] | skip
              first | rw [if_pos t4] | rw [if_neg t4] | skip
              first | rw [if_pos t5] | rw [if_neg t5] | skip
              
            ·
              refine j_tableOut (tgt := 84) dX6_isIn_1 (by
                have e0 : (s).toInt ≠ 0 := fun z => t0 (Int32.toInt_inj.mp (z.trans (by decide)))
                have e1 : (s).toInt ≠ 1 := fun z => t1 (Int32.toInt_inj.mp (z.trans (by decide)))
                have e2 : (s).toInt ≠ 2 := fun z => t2 (Int32.toInt_inj.mp (z.trans (by decide)))
                have e3 : (s).toInt ≠ 3 := fun z => t3 (Int32.toInt_inj.mp (z.trans (by decide)))
                have e4 : (s).toInt ≠ 4 := fun z => t4 (Int32.toInt_inj.mp (z.trans (by decide)))
                have e5 : (s).toInt ≠ 5 := fun z => t5 (Int32.toInt_inj.mp (z.trans (by decide)))
                omega) (by decide) ?_
              refine j_iload_n (pc' := 85) dX6_isIn_84 rfl rfl ?_
              refine j_bipush (pc' := 87) (v := nI 6) dX6_isIn_85 rfl rfl ?_
              first | refine j_icmp_neN' (tgt := 104) (pc' := 90) (by with_reducible rfl) (by with_reducible rfl) (by omega) (by omega) dX6_isIn_87 rfl (by decide) (fun c87 => ?_) (fun c87 => ?_) | refine j_icmp_ne (tgt := 104) (pc' := 90) dX6_isIn_87 rfl (by decide) (fun c87 => ?_) (fun c87 => ?_)
              ·
                refine j_iconst (pc' := 105) (v := nI 0) dX6_isIn_104 rfl rfl ?_
                refine j_reti dX6_isIn_105 rfl (by first | rfl | exact bi_n _) ?_
                refine ⟨?_, rfl⟩
                unfold okS
                first | rw [if_pos t0] | rw [if_neg t0] | skip
                first | rw [if_pos t1] | rw [if_neg t1] | skip
                first | rw [if_pos t2] | rw [if_neg t2] | skip
                first | rw [if_pos t3] | rw [if_neg t3] | skip
                first | rw [if_pos t4] | rw [if_neg t4] | skip
                first | rw [if_pos t5] | rw [if_neg t5] | skip
                rw [if_neg c87]
                rfl
              ·
                refine j_iload_n (pc' := 91) dX6_isIn_90 rfl rfl ?_
                refine j_iconst (pc' := 92) (v := nI 0) dX6_isIn_91 rfl rfl ?_
                refine j_bipush (pc' := 94) (v := nI 15) dX6_isIn_92 rfl rfl ?_
                refine j_cSi (pc' := 97) m_X6_32 (c_X6_in E l n kd R _ _ _ _) rfl rfl ⟨Nat.le_of_ble_eq_true rfl, Nat.le_of_ble_eq_true rfl⟩ ⟨Nat.zero_le _, Nat.zero_le _⟩ (Nat.le_of_ble_eq_true rfl) dX6_isIn_94 rfl (fun x1 I1 hq => ?_)
                obtain ⟨rfl, rfl⟩ := hq
                first | refine j_if_eqB' (tgt := 104) (pc' := 100) (by with_reducible rfl) dX6_isIn_97 rfl (by decide) (fun c97 => ?_) (fun c97 => ?_) | refine j_if_eqN' (tgt := 104) (pc' := 100) (by with_reducible rfl) (by omega) dX6_isIn_97 rfl (by decide) (fun c97 => ?_) (fun c97 => ?_) | refine j_if_eq (tgt := 104) (pc' := 100) dX6_isIn_97 rfl (by decide) (fun c97 => ?_) (fun c97 => ?_)
                ·
                  refine j_iconst (pc' := 105) (v := nI 0) dX6_isIn_104 rfl rfl ?_
                  refine j_reti dX6_isIn_105 rfl (by first | rfl | exact bi_n _) ?_
                  refine ⟨?_, rfl⟩
                  unfold okS
                  first | rw [if_pos t0] | rw [if_neg t0] | skip
                  first | rw [if_pos t1] | rw [if_neg t1] | skip
                  first | rw [if_pos t2] | rw [if_neg t2] | skip
                  first | rw [if_pos t3] | rw [if_neg t3] | skip
                  first | rw [if_pos t4] | rw [if_neg t4] | skip
                  first | rw [if_pos t5] | rw [if_neg t5] | skip
                  rw [if_pos c87]
                  first | (rw [c97]; rfl) | exact (bi_F c97)
                ·
                  refine j_iconst (pc' := 101) (v := nI 1) dX6_isIn_100 rfl rfl ?_
                  refine j_goto (tgt := 105) dX6_isIn_101 (by decide) ?_
                  refine j_reti dX6_isIn_105 rfl (by first | rfl | exact bi_n _) ?_
                  refine ⟨?_, rfl⟩
                  unfold okS
                  first | rw [if_pos t0] | rw [if_neg t0] | skip
                  first | rw [if_pos t1] | rw [if_neg t1] | skip
                  first | rw [if_pos t2] | rw [if_neg t2] | skip
                  first | rw [if_pos t3] | rw [if_neg t3] | skip
                  first | rw [if_pos t4] | rw [if_neg t4] | skip
                  first | rw [if_pos t5] | rw [if_neg t5] | skip
                  rw [if_pos c87]
                  first | (rw [c97]; rfl) | exact (bi_F c97)

def fSet (v : Nat → Int32) (x s y : Int32) : Nat → Int32 :=
  if upd v (176 + 56 * x.toNatClampNeg + s.toNatClampNeg) y (176 + 56 * x.toNatClampNeg + 5) = nI 1 then
    if upd v (176 + 56 * x.toNatClampNeg + s.toNatClampNeg) y (176 + 56 * x.toNatClampNeg + 13) ≤ 0 then upd v (176 + 56 * x.toNatClampNeg + s.toNatClampNeg) y
    else sHap (upd (upd v (176 + 56 * x.toNatClampNeg + s.toNatClampNeg) y) (176 + 56 * x.toNatClampNeg + 13) (nI 0)) (nI 5) x
  else upd v (176 + 56 * x.toNatClampNeg + s.toNatClampNeg) y
theorem okS_nat {s x : Int32} (h : okS s x = true) : ∃ j, j < 7 ∧ s = nI j := by
  unfold okS at h
  by_cases t0 : s = nI 0
  · exact ⟨0, by omega, t0⟩
  by_cases t1 : s = nI 1
  · exact ⟨1, by omega, t1⟩
  by_cases t2 : s = nI 2
  · exact ⟨2, by omega, t2⟩
  by_cases t3 : s = nI 3
  · exact ⟨3, by omega, t3⟩
  by_cases t4 : s = nI 4
  · exact ⟨4, by omega, t4⟩
  by_cases t5 : s = nI 5
  · exact ⟨5, by omega, t5⟩
  by_cases t6 : s = nI 6
  · exact ⟨6, by omega, t6⟩
  rw [if_neg t0, if_neg t1, if_neg t2, if_neg t3, if_neg t4, if_neg t5, if_neg t6] at h
  cases h

set_option maxRecDepth 100000 in
set_option maxHeartbeats 4000000 in
theorem c_X6_set {E : jx_E} {l : Launch} {n : Nat} {kd : jx_K} {R : jx_R} {I0 : jx_I} {m : Nat} {F v a p o t c : Nat → Int32} {k q N : Nat} {x s y : Int32} (hs : sMd kd R m) (hk : v 0 = nI k) (h16 : k ≤ 16) (hc : F 3 = nI q) (hc4 : q ≤ 4) (hN : v 9 = nI N) (hNb : N < 2147483000) : jx_Ci E l yX6_set cX6_set 5 (some .int) 3 n kd R (mI I0 m F v a p o t c) [.ref m, .int x, .int s, .int y] (fun r I' => r = (if okP v x = true ∧ okS s y = true then v (176 + 56 * x.toNatClampNeg + s.toNatClampNeg) else -20001) ∧ I' = if okP v x = true ∧ okS s y = true then mI I0 m (upd F 3 (nI (kpC q))) (fSet v x s y) a (kpP p q v) o t c else mI I0 m F v a p o t c) := by
  obtain ⟨K0, K1, K2, K3, K4, K5, K6, R0, R1, R2, R4, R6, R10⟩ := id hs
  refine jx_C0.ofJ RX6 [some (.ref m), some (.int x), some (.int s), some (.int y), none] (by decide) rfl rfl (Nat.le_of_ble_eq_true rfl) rfl ?_
  refine j_aload_n (pc' := 1) dX6_set_0 rfl rfl ?_
  refine j_iload_n (pc' := 2) dX6_set_1 rfl rfl ?_
  refine j_cVi (pc' := 5) m_X6_52 (c_X6_isPoint hs) (by assumption) (by decide) rfl rfl rfl ⟨Nat.le_of_ble_eq_true rfl, Nat.le_of_ble_eq_true rfl⟩ ⟨Nat.zero_le _, Nat.zero_le _⟩ (Nat.le_of_ble_eq_true rfl) dX6_set_2 rfl (fun x1 I1 hq => ?_)
  obtain ⟨rfl, rfl⟩ := hq
  first | refine j_if_eqB' (tgt := 16) (pc' := 8) (by with_reducible rfl) dX6_set_5 rfl (by decide) (fun c5 => ?_) (fun c5 => ?_) | refine j_if_eqN' (tgt := 16) (pc' := 8) (by with_reducible rfl) (by omega) dX6_set_5 rfl (by decide) (fun c5 => ?_) (fun c5 => ?_) | refine j_if_eq (tgt := 16) (pc' := 8) dX6_set_5 rfl (by decide) (fun c5 => ?_) (fun c5 => ?_)
  ·
    refine j_sipush (pc' := 19) (v := -20001) dX6_set_16 rfl rfl ?_
    refine j_reti dX6_set_19 rfl (by first | rfl | exact bi_n _) ?_
    constructor <;> simp (disch := omega) only [fSet, nI_clamp, c5, reduceIte, Bool.false_eq_true, eq_self, and_true, and_false, true_and, false_and, not_true_eq_false, not_false_eq_true, Bool.and_true, Bool.and_false, Bool.true_and, Bool.false_and, ne_eq]
  ·
    refine j_iload_n (pc' := 9) dX6_set_8 rfl rfl ?_
    refine j_iload_n (pc' := 10) dX6_set_9 rfl rfl ?_
    refine j_cSi (pc' := 13) m_X6_55 (c_X6_isIn E l n kd R _ _ _) rfl rfl ⟨Nat.le_of_ble_eq_true rfl, Nat.le_of_ble_eq_true rfl⟩ ⟨Nat.zero_le _, Nat.zero_le _⟩ (Nat.le_of_ble_eq_true rfl) dX6_set_10 rfl (fun x1 I1 hq => ?_)
    obtain ⟨rfl, rfl⟩ := hq
    first | refine j_if_neB' (tgt := 20) (pc' := 16) (by with_reducible rfl) dX6_set_13 rfl (by decide) (fun c13 => ?_) (fun c13 => ?_) | refine j_if_neN' (tgt := 20) (pc' := 16) (by with_reducible rfl) (by omega) dX6_set_13 rfl (by decide) (fun c13 => ?_) (fun c13 => ?_) | refine j_if_ne (tgt := 20) (pc' := 16) dX6_set_13 rfl (by decide) (fun c13 => ?_) (fun c13 => ?_)
    ·
      have hok := c5
      have hos := c13
      obtain ⟨i, hi, rfl⟩ := okP_nat hk h16 c5
      obtain ⟨j, hj, rfl⟩ := okS_nat c13
      refine j_aload_n (pc' := 21) dX6_set_20 rfl rfl ?_
      refine j_aload_n (pc' := 22) dX6_set_21 rfl rfl ?_
      refine j_getR (pc' := 25) f_X6_7 (by assumption) (by assumption) dX6_set_22 rfl ?_
      refine j_cVv (pc' := 28) m_X6_40 (c_X6_keeps (row := v) hs K1 (fun _ _ => mI_1) hc hc4) (by assumption) (by decide) rfl rfl rfl ⟨Nat.le_of_ble_eq_true rfl, Nat.le_of_ble_eq_true rfl⟩ ⟨Nat.zero_le _, Nat.zero_le _⟩ (Nat.le_of_ble_eq_true rfl) dX6_set_25 rfl (fun I1 hq => ?_)
      subst hq
      refine j_aload_n (pc' := 29) dX6_set_28 rfl rfl ?_
      refine j_iload_n (pc' := 30) dX6_set_29 rfl rfl ?_
      refine j_iload_n (pc' := 31) dX6_set_30 rfl rfl ?_
      refine j_cVi (pc' := 34) m_X6_59 (c_X6_of hs (by omega) (by omega)) (by assumption) (by decide) rfl rfl rfl ⟨Nat.le_of_ble_eq_true rfl, Nat.le_of_ble_eq_true rfl⟩ ⟨Nat.zero_le _, Nat.zero_le _⟩ (Nat.le_of_ble_eq_true rfl) dX6_set_31 rfl (fun x1 I1 hq => ?_)
      obtain ⟨rfl, rfl⟩ := hq
      refine j_istore (pc' := 36) (lv' := [_, _, _, _, _]) dX6_set_34 rfl (by decide) rfl ?_
      refine j_aload_n (pc' := 37) dX6_set_36 rfl rfl ?_
      refine j_iload_n (pc' := 38) dX6_set_37 rfl rfl ?_
      refine j_iload_n (pc' := 39) dX6_set_38 rfl rfl ?_
      refine j_iload_n (pc' := 40) dX6_set_39 rfl rfl ?_
      refine j_cVv (pc' := 43) m_X6_44 (c_X6_puts hs (by omega) (by omega)) (by assumption) (by decide) rfl rfl rfl ⟨Nat.le_of_ble_eq_true rfl, Nat.le_of_ble_eq_true rfl⟩ ⟨Nat.zero_le _, Nat.zero_le _⟩ (Nat.le_of_ble_eq_true rfl) dX6_set_40 rfl (fun I1 hq => ?_)
      subst hq
      refine j_aload_n (pc' := 44) dX6_set_43 rfl rfl ?_
      refine j_iload_n (pc' := 45) dX6_set_44 rfl rfl ?_
      refine j_iconst (pc' := 46) (v := nI 5) dX6_set_45 rfl rfl ?_
      refine j_cVi (pc' := 49) m_X6_59 (c_X6_of hs (by omega) (by omega)) (by assumption) (by decide) rfl rfl rfl ⟨Nat.le_of_ble_eq_true rfl, Nat.le_of_ble_eq_true rfl⟩ ⟨Nat.zero_le _, Nat.zero_le _⟩ (Nat.le_of_ble_eq_true rfl) dX6_set_46 rfl (fun x1 I1 hq => ?_)
      obtain ⟨rfl, rfl⟩ := hq
      refine j_iconst (pc' := 50) (v := nI 1) dX6_set_49 rfl rfl ?_
      first | refine j_icmp_neN' (tgt := 68) (pc' := 53) (by with_reducible rfl) (by with_reducible rfl) (by omega) (by omega) dX6_set_50 rfl (by decide) (fun c50 => ?_) (fun c50 => ?_) | refine j_icmp_ne (tgt := 68) (pc' := 53) dX6_set_50 rfl (by decide) (fun c50 => ?_) (fun c50 => ?_)
      ·
        refine j_iload (pc' := 70) dX6_set_68 rfl rfl ?_
        refine j_reti dX6_set_70 rfl (by first | rfl | exact bi_n _) ?_
        constructor <;> simp (disch := omega) only [fSet, nI_clamp, hok, hos, c5, c13, c50, reduceIte, Bool.false_eq_true, eq_self, and_true, and_false, true_and, false_and, not_true_eq_false, not_false_eq_true, Bool.and_true, Bool.and_false, Bool.true_and, Bool.false_and, ne_eq]
      ·
        refine j_aload_n (pc' := 54) dX6_set_53 rfl rfl ?_
        refine j_iload_n (pc' := 55) dX6_set_54 rfl rfl ?_
        refine j_bipush (pc' := 57) (v := nI 13) dX6_set_55 rfl rfl ?_
        refine j_cVi (pc' := 60) m_X6_59 (c_X6_of hs (by omega) (by omega)) (by assumption) (by decide) rfl rfl rfl ⟨Nat.le_of_ble_eq_true rfl, Nat.le_of_ble_eq_true rfl⟩ ⟨Nat.zero_le _, Nat.zero_le _⟩ (Nat.le_of_ble_eq_true rfl) dX6_set_57 rfl (fun x1 I1 hq => ?_)
        obtain ⟨rfl, rfl⟩ := hq
        first | refine j_if_leN' (tgt := 68) (pc' := 63) (by with_reducible rfl) (by omega) dX6_set_60 rfl (by decide) (fun c60 => ?_) (fun c60 => ?_) | refine j_if_le (tgt := 68) (pc' := 63) dX6_set_60 rfl (by decide) (fun c60 => ?_) (fun c60 => ?_)
        ·
          refine j_iload (pc' := 70) dX6_set_68 rfl rfl ?_
          refine j_reti dX6_set_70 rfl (by first | rfl | exact bi_n _) ?_
          constructor <;> simp (disch := omega) only [fSet, nI_clamp, hok, hos, c5, c13, c50, c60, reduceIte, Bool.false_eq_true, eq_self, and_true, and_false, true_and, false_and, not_true_eq_false, not_false_eq_true, Bool.and_true, Bool.and_false, Bool.true_and, Bool.false_and, ne_eq]
        ·
          refine j_aload_n (pc' := 64) dX6_set_63 rfl rfl ?_
          refine j_iload_n (pc' := 65) dX6_set_64 rfl rfl ?_
          refine j_cVv (pc' := 68) m_X6_63 (c_X6_leavesShelf hs (by omega) (N := N) (by simp (disch := omega) only [pk_us, pk_un, hN]) hNb) (by assumption) (by decide) rfl rfl rfl ⟨Nat.le_of_ble_eq_true rfl, Nat.le_of_ble_eq_true rfl⟩ ⟨Nat.zero_le _, Nat.zero_le _⟩ (Nat.le_of_ble_eq_true rfl) dX6_set_65 rfl (fun I1 hq => ?_)
          subst hq
          refine j_iload (pc' := 70) dX6_set_68 rfl rfl ?_
          refine j_reti dX6_set_70 rfl (by first | rfl | exact bi_n _) ?_
          constructor <;> simp (disch := omega) only [fSet, nI_clamp, hok, hos, c5, c13, c50, c60, reduceIte, Bool.false_eq_true, eq_self, and_true, and_false, true_and, false_and, not_true_eq_false, not_false_eq_true, Bool.and_true, Bool.and_false, Bool.true_and, Bool.false_and, ne_eq]
    ·
      refine j_sipush (pc' := 19) (v := -20001) dX6_set_16 rfl rfl ?_
      refine j_reti dX6_set_19 rfl (by first | rfl | exact bi_n _) ?_
      constructor <;> simp (disch := omega) only [fSet, nI_clamp, c5, c13, reduceIte, Bool.false_eq_true, eq_self, and_true, and_false, true_and, false_and, not_true_eq_false, not_false_eq_true, Bool.and_true, Bool.and_false, Bool.true_and, Bool.false_and, ne_eq]

/-- a new point's row -/
def zeroP (v : Nat → Int32) (k w : Nat) : Nat → Int32 := fun j => if 176 + 56 * k ≤ j ∧ j < 176 + 56 * k + w then 0 else v j
theorem zeroP_step {v : Nat → Int32} {k w : Nat} : upd (zeroP v k w) (176 + 56 * k + w) (nI 0) = zeroP v k (w + 1) := by
  funext j
  unfold upd zeroP
  by_cases h : j = 176 + 56 * k + w
  · rw [if_pos h, if_pos (by omega)]
    rfl
  · by_cases h2 : 176 + 56 * k ≤ j ∧ j < 176 + 56 * k + w
    · rw [if_neg h, if_pos h2, if_pos (by omega)]
    · rw [if_neg h, if_neg h2, if_neg (by omega)]
theorem zeroP_0 {v : Nat → Int32} {k : Nat} : zeroP v k 0 = v := by
  funext j
  unfold zeroP
  rw [if_neg (by omega)]
theorem zeroP_lo {v : Nat → Int32} {k w j : Nat} (h : j < 176) : zeroP v k w j = v j := by
  unfold zeroP
  rw [if_neg (by omega)]
def fAdd (v : Nat → Int32) (k : Nat) (x y : Int32) : Nat → Int32 := upd (upd (upd (upd (upd (zeroP v k 56) (176 + 56 * k + 1) x) (176 + 56 * k + 5) y) (176 + 56 * k + 8) (-1)) (176 + 56 * k + 10) (nI 1)) 0 (nI (k + 1))

set_option maxRecDepth 100000 in
set_option maxHeartbeats 4000000 in
theorem lp_X6_add {E : jx_E} {l : Launch} {n : Nat} {kd : jx_K} {R : jx_R} {I0 : jx_I} {m : Nat} {F v a p o t c : Nat → Int32} {k q : Nat} {x y : Int32} (hs : sMd kd R m) (hk : v 0 = nI k) (h16 : k ≤ 16) (hc : F 3 = nI q) (hc4 : q ≤ 4) (h1 : okV x = true) (h2 : decide (nI 1 ≤ y ∧ y ≤ nI 4) = true) (h3 : ¬ k = 16) : ∀ (z w : Nat), w ≤ 56 → z + w = 57 → jx_J E l cX6_add 5 (some .int) RX6 false (jx_rm 3) 0 0 (jx_Q0 n kd R (jx_Pi (fun r I' => r = (if okV x = true ∧ decide (nI 1 ≤ y ∧ y ≤ nI 4) = true then if k = 16 then -20003 else nI k else -20001) ∧ I' = if (okV x = true ∧ decide (nI 1 ≤ y ∧ y ≤ nI 4) = true) ∧ ¬ k = 16 then mI I0 m (upd F 3 (nI (kpC q))) (fAdd v k x y) a (kpP p q v) o t c else mI I0 m F v a p o t c))) 0 0 n kd R (mI I0 m (upd F 3 (nI (kpC q))) (zeroP v k w) a (kpP p q v) o t c) 53 [some (.ref m), some (.int x), some (.int y), some (.int (nI k)), some (.int (nI w))] [] := by
  obtain ⟨K0, K1, K2, K3, K4, K5, K6, R0, R1, R2, R4, R6, R10⟩ := id hs
  intro z
  induction z with
  | zero => intro w hw hz; omega
  | succ z ih =>
    intro w hw hz
    refine j_iload (pc' := 55) dX6_add_53 rfl rfl ?_
    refine j_bipush (pc' := 57) (v := nI 56) dX6_add_55 rfl rfl ?_
    first | refine j_icmp_geN' (tgt := 74) (pc' := 60) (by with_reducible rfl) (by with_reducible rfl) (by omega) (by omega) dX6_add_57 rfl (by decide) (fun c57 => ?_) (fun c57 => ?_) | refine j_icmp_ge (tgt := 74) (pc' := 60) dX6_add_57 rfl (by decide) (fun c57 => ?_) (fun c57 => ?_)
    ·
      refine j_aload_n (pc' := 75) dX6_add_74 rfl rfl ?_
      refine j_iload_n (pc' := 76) dX6_add_75 rfl rfl ?_
      refine j_iconst (pc' := 77) (v := nI 1) dX6_add_76 rfl rfl ?_
      refine j_iload_n (pc' := 78) dX6_add_77 rfl rfl ?_
      refine j_cVv (pc' := 81) m_X6_44 (c_X6_puts hs (by omega) (by omega)) (by assumption) (by decide) rfl rfl rfl ⟨Nat.le_of_ble_eq_true rfl, Nat.le_of_ble_eq_true rfl⟩ ⟨Nat.zero_le _, Nat.zero_le _⟩ (Nat.le_of_ble_eq_true rfl) dX6_add_78 rfl (fun I1 hq => ?_)
      subst hq
      refine j_aload_n (pc' := 82) dX6_add_81 rfl rfl ?_
      refine j_iload_n (pc' := 83) dX6_add_82 rfl rfl ?_
      refine j_iconst (pc' := 84) (v := nI 5) dX6_add_83 rfl rfl ?_
      refine j_iload_n (pc' := 85) dX6_add_84 rfl rfl ?_
      refine j_cVv (pc' := 88) m_X6_44 (c_X6_puts hs (by omega) (by omega)) (by assumption) (by decide) rfl rfl rfl ⟨Nat.le_of_ble_eq_true rfl, Nat.le_of_ble_eq_true rfl⟩ ⟨Nat.zero_le _, Nat.zero_le _⟩ (Nat.le_of_ble_eq_true rfl) dX6_add_85 rfl (fun I1 hq => ?_)
      subst hq
      refine j_aload_n (pc' := 89) dX6_add_88 rfl rfl ?_
      refine j_iload_n (pc' := 90) dX6_add_89 rfl rfl ?_
      refine j_bipush (pc' := 92) (v := nI 8) dX6_add_90 rfl rfl ?_
      refine j_iconst (pc' := 93) (v := -1) dX6_add_92 rfl rfl ?_
      refine j_cVv (pc' := 96) m_X6_44 (c_X6_puts hs (by omega) (by omega)) (by assumption) (by decide) rfl rfl rfl ⟨Nat.le_of_ble_eq_true rfl, Nat.le_of_ble_eq_true rfl⟩ ⟨Nat.zero_le _, Nat.zero_le _⟩ (Nat.le_of_ble_eq_true rfl) dX6_add_93 rfl (fun I1 hq => ?_)
      subst hq
      refine j_aload_n (pc' := 97) dX6_add_96 rfl rfl ?_
      refine j_iload_n (pc' := 98) dX6_add_97 rfl rfl ?_
      refine j_bipush (pc' := 100) (v := nI 10) dX6_add_98 rfl rfl ?_
      refine j_iconst (pc' := 101) (v := nI 1) dX6_add_100 rfl rfl ?_
      refine j_cVv (pc' := 104) m_X6_44 (c_X6_puts hs (by omega) (by omega)) (by assumption) (by decide) rfl rfl rfl ⟨Nat.le_of_ble_eq_true rfl, Nat.le_of_ble_eq_true rfl⟩ ⟨Nat.zero_le _, Nat.zero_le _⟩ (Nat.le_of_ble_eq_true rfl) dX6_add_101 rfl (fun I1 hq => ?_)
      subst hq
      refine j_aload_n (pc' := 105) dX6_add_104 rfl rfl ?_
      refine j_getR (pc' := 108) f_X6_7 (by assumption) (by assumption) dX6_add_105 rfl ?_
      refine j_iconst (pc' := 109) (v := nI 0) dX6_add_108 rfl rfl ?_
      refine j_dup2 (pc' := 110) dX6_add_109 rfl rfl rfl ?_
      refine j_ialdv (pc' := 111) (by assumption) rfl (by omega) (by omega) (by first | (simp (disch := omega) only [jx_upS, jx_upK, jx_upA, mI_0, mI_1, mI_2, mI_3, mI_4, mI_5, mI_6, pk_us, pk_un, hk, zeroP_lo]; rfl) | rfl) dX6_add_110 rfl ?_
      refine j_iconst (pc' := 112) (v := nI 1) dX6_add_111 rfl rfl ?_
      first | refine j_iaddN' (pc' := 113) (by with_reducible rfl) (by with_reducible rfl) dX6_add_112 rfl ?_ | refine j_iadd (pc' := 113) dX6_add_112 rfl ?_
      refine j_iast (pc' := 114) (by assumption) rfl (by omega) (by omega) dX6_add_113 rfl ?_
      first | refine j_eqI mW_1 ?_ | refine j_eqI mW_2 ?_ | refine j_eqI mW_3 ?_ | refine j_eqI mW_4 ?_ | refine j_eqI mW_5 ?_ | refine j_eqI mW_6 ?_
      refine j_iload_n (pc' := 115) dX6_add_114 rfl rfl ?_
      refine j_reti dX6_add_115 rfl (by first | rfl | exact bi_n _) ?_
      have : w = 56 := by omega
      subst this
      refine ⟨?_, ?_⟩
      · rw [if_pos ⟨h1, h2⟩, if_neg h3]
      · rw [if_pos ⟨⟨h1, h2⟩, h3⟩]
        rfl
    ·
      refine j_aload_n (pc' := 61) dX6_add_60 rfl rfl ?_
      refine j_iload_n (pc' := 62) dX6_add_61 rfl rfl ?_
      refine j_iload (pc' := 64) dX6_add_62 rfl rfl ?_
      refine j_iconst (pc' := 65) (v := nI 0) dX6_add_64 rfl rfl ?_
      refine j_cVv (pc' := 68) m_X6_44 (c_X6_puts hs (by omega) (by omega)) (by assumption) (by decide) rfl rfl rfl ⟨Nat.le_of_ble_eq_true rfl, Nat.le_of_ble_eq_true rfl⟩ ⟨Nat.zero_le _, Nat.zero_le _⟩ (Nat.le_of_ble_eq_true rfl) dX6_add_65 rfl (fun I1 hq => ?_)
      subst hq
      rw [zeroP_step]
      first | refine j_iincN (pc' := 71) (lv' := [_, _, _, _, _]) dX6_add_68 rfl rfl (by decide) rfl ?_ | refine j_iinc (pc' := 71) (lv' := [_, _, _, _, _]) dX6_add_68 rfl rfl rfl (by decide) rfl ?_
      refine j_goto (tgt := 53) dX6_add_71 (by decide) ?_
      exact ih (w + 1) (by omega) (by omega)
set_option maxRecDepth 100000 in
set_option maxHeartbeats 4000000 in
theorem c_X6_add {E : jx_E} {l : Launch} {n : Nat} {kd : jx_K} {R : jx_R} {I0 : jx_I} {m : Nat} {F v a p o t c : Nat → Int32} {k q : Nat} {x y : Int32} (hs : sMd kd R m) (hk : v 0 = nI k) (h16 : k ≤ 16) (hc : F 3 = nI q) (hc4 : q ≤ 4) : jx_Ci E l yX6_add cX6_add 5 (some .int) 3 n kd R (mI I0 m F v a p o t c) [.ref m, .int x, .int y] (fun r I' => r = (if okV x = true ∧ decide (nI 1 ≤ y ∧ y ≤ nI 4) = true then if k = 16 then -20003 else nI k else -20001) ∧ I' = if (okV x = true ∧ decide (nI 1 ≤ y ∧ y ≤ nI 4) = true) ∧ ¬ k = 16 then mI I0 m (upd F 3 (nI (kpC q))) (fAdd v k x y) a (kpP p q v) o t c else mI I0 m F v a p o t c) := by
  obtain ⟨K0, K1, K2, K3, K4, K5, K6, R0, R1, R2, R4, R6, R10⟩ := id hs
  refine jx_C0.ofJ RX6 [some (.ref m), some (.int x), some (.int y), none, none] (by decide) rfl rfl (Nat.le_of_ble_eq_true rfl) rfl ?_
  refine j_iload_n (pc' := 1) dX6_add_0 rfl rfl ?_
  refine j_cSi (pc' := 4) m_X6_36 (c_X6_isValue E l n kd R _ _) rfl rfl ⟨Nat.le_of_ble_eq_true rfl, Nat.le_of_ble_eq_true rfl⟩ ⟨Nat.zero_le _, Nat.zero_le _⟩ (Nat.le_of_ble_eq_true rfl) dX6_add_1 rfl (fun x1 I1 hq => ?_)
  obtain ⟨rfl, rfl⟩ := hq
  first | refine j_if_eqB' (tgt := 16) (pc' := 7) (by with_reducible rfl) dX6_add_4 rfl (by decide) (fun c4 => ?_) (fun c4 => ?_) | refine j_if_eqN' (tgt := 16) (pc' := 7) (by with_reducible rfl) (by omega) dX6_add_4 rfl (by decide) (fun c4 => ?_) (fun c4 => ?_) | refine j_if_eq (tgt := 16) (pc' := 7) dX6_add_4 rfl (by decide) (fun c4 => ?_) (fun c4 => ?_)
  ·
    refine j_sipush (pc' := 19) (v := -20001) dX6_add_16 rfl rfl ?_
    refine j_reti dX6_add_19 rfl (by first | rfl | exact bi_n _) ?_
    constructor <;> simp only [c4, reduceIte, Bool.false_eq_true, and_true, and_false, true_and, false_and, not_true_eq_false, not_false_eq_true, decide_true, eq_self]
  ·
    refine j_iload_n (pc' := 8) dX6_add_7 rfl rfl ?_
    refine j_iconst (pc' := 9) (v := nI 1) dX6_add_8 rfl rfl ?_
    refine j_iconst (pc' := 10) (v := nI 4) dX6_add_9 rfl rfl ?_
    refine j_cSi (pc' := 13) m_X6_32 (c_X6_in E l n kd R _ _ _ _) rfl rfl ⟨Nat.le_of_ble_eq_true rfl, Nat.le_of_ble_eq_true rfl⟩ ⟨Nat.zero_le _, Nat.zero_le _⟩ (Nat.le_of_ble_eq_true rfl) dX6_add_10 rfl (fun x1 I1 hq => ?_)
    obtain ⟨rfl, rfl⟩ := hq
    first | refine j_if_neB' (tgt := 20) (pc' := 16) (by with_reducible rfl) dX6_add_13 rfl (by decide) (fun c13 => ?_) (fun c13 => ?_) | refine j_if_neN' (tgt := 20) (pc' := 16) (by with_reducible rfl) (by omega) dX6_add_13 rfl (by decide) (fun c13 => ?_) (fun c13 => ?_) | refine j_if_ne (tgt := 20) (pc' := 16) dX6_add_13 rfl (by decide) (fun c13 => ?_) (fun c13 => ?_)
    ·
      refine j_aload_n (pc' := 21) dX6_add_20 rfl rfl ?_
      refine j_getR (pc' := 24) f_X6_7 (by assumption) (by assumption) dX6_add_21 rfl ?_
      refine j_iconst (pc' := 25) (v := nI 0) dX6_add_24 rfl rfl ?_
      refine j_ialdv (pc' := 26) (by assumption) rfl (by omega) (by omega) (by first | (simp (disch := omega) only [jx_upS, jx_upK, jx_upA, mI_0, mI_1, mI_2, mI_3, mI_4, mI_5, mI_6, pk_us, pk_un, hk]; rfl) | rfl) dX6_add_25 rfl ?_
      refine j_bipush (pc' := 28) (v := nI 16) dX6_add_26 rfl rfl ?_
      first | refine j_icmp_neN' (tgt := 35) (pc' := 31) (by with_reducible rfl) (by with_reducible rfl) (by omega) (by omega) dX6_add_28 rfl (by decide) (fun c28 => ?_) (fun c28 => ?_) | refine j_icmp_ne (tgt := 35) (pc' := 31) dX6_add_28 rfl (by decide) (fun c28 => ?_) (fun c28 => ?_)
      ·
        refine j_aload_n (pc' := 36) dX6_add_35 rfl rfl ?_
        refine j_aload_n (pc' := 37) dX6_add_36 rfl rfl ?_
        refine j_getR (pc' := 40) f_X6_7 (by assumption) (by assumption) dX6_add_37 rfl ?_
        refine j_cVv (pc' := 43) m_X6_40 (c_X6_keeps (row := v) hs K1 (fun _ _ => mI_1) hc hc4) (by assumption) (by decide) rfl rfl rfl ⟨Nat.le_of_ble_eq_true rfl, Nat.le_of_ble_eq_true rfl⟩ ⟨Nat.zero_le _, Nat.zero_le _⟩ (Nat.le_of_ble_eq_true rfl) dX6_add_40 rfl (fun I1 hq => ?_)
        subst hq
        refine j_aload_n (pc' := 44) dX6_add_43 rfl rfl ?_
        refine j_getR (pc' := 47) f_X6_7 (by assumption) (by assumption) dX6_add_44 rfl ?_
        refine j_iconst (pc' := 48) (v := nI 0) dX6_add_47 rfl rfl ?_
        refine j_ialdv (pc' := 49) (by assumption) rfl (by omega) (by omega) (by first | (simp (disch := omega) only [jx_upS, jx_upK, jx_upA, mI_0, mI_1, mI_2, mI_3, mI_4, mI_5, mI_6, pk_us, pk_un, hk]; rfl) | rfl) dX6_add_48 rfl ?_
        refine j_istore_n (pc' := 50) (lv' := [_, _, _, _, _]) dX6_add_49 rfl (by decide) rfl ?_
        refine j_iconst (pc' := 51) (v := nI 0) dX6_add_50 rfl rfl ?_
        refine j_istore (pc' := 53) (lv' := [_, _, _, _, _]) dX6_add_51 rfl (by decide) rfl ?_
        have h := lp_X6_add (E := E) (l := l) (n := n) (I0 := I0) (a := a) (p := p) (o := o) (t := t) (c := c) hs hk h16 hc hc4 c4 c13 c28 57 0 (by omega) (by omega)
        rw [zeroP_0] at h
        exact h
      ·
        refine j_sipush (pc' := 34) (v := -20003) dX6_add_31 rfl rfl ?_
        refine j_reti dX6_add_34 rfl (by first | rfl | exact bi_n _) ?_
        constructor <;> simp only [c4, c13, c28, reduceIte, Bool.false_eq_true, and_true, and_false, true_and, false_and, not_true_eq_false, not_false_eq_true, decide_true, eq_self]
    ·
      refine j_sipush (pc' := 19) (v := -20001) dX6_add_16 rfl rfl ?_
      refine j_reti dX6_add_19 rfl (by first | rfl | exact bi_n _) ?_
      constructor <;> simp only [c4, c13, reduceIte, Bool.false_eq_true, and_true, and_false, true_and, false_and, not_true_eq_false, not_false_eq_true, decide_true, eq_self]

