def pf (i w : Nat) : Nat := 176 + 56 * i + w
/-- the number of events, and one more of them -/
def evN (v : Nat → Int32) : Nat := (v 9).toNatClampNeg
theorem evN_of {v : Nat → Int32} {N : Nat} (h : v 9 = nI N) (hb : N < 2147483000) : evN v = N := by rw [evN, h, nI_clamp (by omega)]
def sHapN (v : Nat → Int32) (N : Nat) (w p : Int32) : Nat → Int32 := upd (upd (upd (upd v (80 + 3 * (N % 30)) (v 1)) (80 + 3 * (N % 30) + 1) w) (80 + 3 * (N % 30) + 2) p) 9 (nI (N + 1))
def sHap (v : Nat → Int32) (w p : Int32) : Nat → Int32 := sHapN v (evN v) w p
theorem sHap_o {v : Nat → Int32} {w p : Int32} {j : Nat} (h : j ≠ 9 ∧ (j < 80 ∨ 170 ≤ j)) : sHap v w p j = v j := by
  unfold sHap sHapN
  have : evN v % 30 < 30 := Nat.mod_lt _ (by decide)
  rw [pk_un (by omega), pk_un (by omega), pk_un (by omega), pk_un (by omega)]
theorem sHap_9 {v : Nat → Int32} {N : Nat} {w p : Int32} (h : v 9 = nI N) (hb : N < 2147483000) : sHap v w p 9 = nI (N + 1) := by
  unfold sHap sHapN
  rw [evN_of h hb, pk_us]
def okP (v : Nat → Int32) (p : Int32) : Bool := decide (nI 0 ≤ p ∧ p ≤ v 0 - nI 1)
def okV (x : Int32) : Bool := decide ((-10000 : Int32) ≤ x ∧ x ≤ nI 10000)
theorem okP_nat {v : Nat → Int32} {p : Int32} {k : Nat} (hk : v 0 = nI k) (h16 : k ≤ 16) (h : okP v p = true) : ∃ i, i < k ∧ p = nI i := by
  obtain ⟨h1, h2⟩ := of_decide_eq_true h
  rw [hk] at h2
  rcases Nat.eq_zero_or_pos k with h0 | h0
  · subst h0
    exfalso
    simp only [Int32.le_iff_toInt_le] at h1 h2
    have e1 : (nI 0).toInt = 0 := rfl
    have e2 : (nI 0 - nI 1).toInt = -1 := rfl
    omega
  · rw [pk_sub (by omega)] at h2
    obtain ⟨j, hj, rfl⟩ := nI_of (fun z => Int32.not_lt.mpr h1 z)
    have := (nI_leI hj (by omega)).mp h2
    exact ⟨j, by omega, rfl⟩
theorem okP_of {v : Nat → Int32} {k i : Nat} (hk : v 0 = nI k) (h16 : k ≤ 16) (hi : i < k) : okP v (nI i) = true := by
  refine decide_eq_true ⟨nI_le (by omega) (by omega), ?_⟩
  rw [hk, pk_sub (by omega)]
  exact nI_le (by omega) (by omega)

set_option maxRecDepth 100000 in
set_option maxHeartbeats 4000000 in
theorem c_X6_of {E : jx_E} {l : Launch} {n : Nat} {kd : jx_K} {R : jx_R} {I0 : jx_I} {m : Nat} {F v a p o t c : Nat → Int32} {i w : Nat} (hs : sMd kd R m) (hi : i < 16) (hw : w < 56) : jx_Ci E l yX6_of cX6_of 3 (some .int) 0 n kd R (mI I0 m F v a p o t c) [.ref m, .int (nI i), .int (nI w)] (fun r I' => r = v (176 + 56 * i + w) ∧ I' = mI I0 m F v a p o t c) := by
  obtain ⟨K0, K1, K2, K3, K4, K5, K6, R0, R1, R2, R4, R6, R10⟩ := id hs
  refine jx_C0.ofJ RX6 [some (.ref m), some (.int (nI i)), some (.int (nI w))] (by decide) rfl rfl (Nat.le_of_ble_eq_true rfl) rfl ?_
  refine j_aload_n (pc' := 1) dX6_of_0 rfl rfl ?_
  refine j_getR (pc' := 4) f_X6_7 (by assumption) (by assumption) dX6_of_1 rfl ?_
  refine j_sipush (pc' := 7) (v := nI 176) dX6_of_4 rfl rfl ?_
  refine j_bipush (pc' := 9) (v := nI 56) dX6_of_7 rfl rfl ?_
  refine j_iload_n (pc' := 10) dX6_of_9 rfl rfl ?_
  first | refine j_imulN' (pc' := 11) (by with_reducible rfl) (by with_reducible rfl) dX6_of_10 rfl ?_ | refine j_imul (pc' := 11) dX6_of_10 rfl ?_
  first | refine j_iaddN' (pc' := 12) (by with_reducible rfl) (by with_reducible rfl) dX6_of_11 rfl ?_ | refine j_iadd (pc' := 12) dX6_of_11 rfl ?_
  refine j_iload_n (pc' := 13) dX6_of_12 rfl rfl ?_
  first | refine j_iaddN' (pc' := 14) (by with_reducible rfl) (by with_reducible rfl) dX6_of_13 rfl ?_ | refine j_iadd (pc' := 14) dX6_of_13 rfl ?_
  refine j_ialdv (pc' := 15) (by assumption) rfl (by omega) (by omega) (by first | (simp (disch := omega) only [jx_upS, jx_upK, jx_upA, mI_0, mI_1, mI_2, mI_3, mI_4, mI_5, mI_6, pk_us, pk_un]; rfl) | rfl) dX6_of_14 rfl ?_
  refine j_reti dX6_of_15 rfl (by first | rfl | exact bi_n _) ?_
  exact ⟨rfl, rfl⟩

set_option maxRecDepth 100000 in
set_option maxHeartbeats 4000000 in
theorem c_X6_puts {E : jx_E} {l : Launch} {n : Nat} {kd : jx_K} {R : jx_R} {I0 : jx_I} {m : Nat} {F v a p o t c : Nat → Int32} {i w : Nat} {x : Int32} (hs : sMd kd R m) (hi : i < 16) (hw : w < 56) : jx_Cv E l yX6_puts cX6_puts 4 none 0 n kd R (mI I0 m F v a p o t c) [.ref m, .int (nI i), .int (nI w), .int x] (fun I' => I' = mI I0 m F (upd v (176 + 56 * i + w) x) a p o t c) := by
  obtain ⟨K0, K1, K2, K3, K4, K5, K6, R0, R1, R2, R4, R6, R10⟩ := id hs
  refine jx_C0.ofJ RX6 [some (.ref m), some (.int (nI i)), some (.int (nI w)), some (.int x)] (by decide) rfl rfl (Nat.le_of_ble_eq_true rfl) rfl ?_
  refine j_aload_n (pc' := 1) dX6_puts_0 rfl rfl ?_
  refine j_getR (pc' := 4) f_X6_7 (by assumption) (by assumption) dX6_puts_1 rfl ?_
  refine j_sipush (pc' := 7) (v := nI 176) dX6_puts_4 rfl rfl ?_
  refine j_bipush (pc' := 9) (v := nI 56) dX6_puts_7 rfl rfl ?_
  refine j_iload_n (pc' := 10) dX6_puts_9 rfl rfl ?_
  first | refine j_imulN' (pc' := 11) (by with_reducible rfl) (by with_reducible rfl) dX6_puts_10 rfl ?_ | refine j_imul (pc' := 11) dX6_puts_10 rfl ?_
  first | refine j_iaddN' (pc' := 12) (by with_reducible rfl) (by with_reducible rfl) dX6_puts_11 rfl ?_ | refine j_iadd (pc' := 12) dX6_puts_11 rfl ?_
  refine j_iload_n (pc' := 13) dX6_puts_12 rfl rfl ?_
  first | refine j_iaddN' (pc' := 14) (by with_reducible rfl) (by with_reducible rfl) dX6_puts_13 rfl ?_ | refine j_iadd (pc' := 14) dX6_puts_13 rfl ?_
  refine j_iload_n (pc' := 15) dX6_puts_14 rfl rfl ?_
  refine j_iast (pc' := 16) (by assumption) rfl (by omega) (by omega) dX6_puts_15 rfl ?_
  first | refine j_eqI mW_1 ?_ | refine j_eqI mW_2 ?_ | refine j_eqI mW_3 ?_ | refine j_eqI mW_4 ?_ | refine j_eqI mW_5 ?_ | refine j_eqI mW_6 ?_
  refine j_retv dX6_puts_16 rfl ?_
  rfl

set_option maxRecDepth 100000 in
set_option maxHeartbeats 4000000 in
theorem c_X6_isPoint {E : jx_E} {l : Launch} {n : Nat} {kd : jx_K} {R : jx_R} {I0 : jx_I} {m : Nat} {F v a p o t c : Nat → Int32} {x : Int32} (hs : sMd kd R m)  : jx_Ci E l yX6_isPoint cX6_isPoint 2 (some .boolean) 1 n kd R (mI I0 m F v a p o t c) [.ref m, .int x] (fun r I' => r = bi (okP v x) ∧ I' = mI I0 m F v a p o t c) := by
  obtain ⟨K0, K1, K2, K3, K4, K5, K6, R0, R1, R2, R4, R6, R10⟩ := id hs
  refine jx_C0.ofJ RX6 [some (.ref m), some (.int x)] (by decide) rfl rfl (Nat.le_of_ble_eq_true rfl) rfl ?_
  refine j_iload_n (pc' := 1) dX6_isPoint_0 rfl rfl ?_
  refine j_iconst (pc' := 2) (v := nI 0) dX6_isPoint_1 rfl rfl ?_
  refine j_aload_n (pc' := 3) dX6_isPoint_2 rfl rfl ?_
  refine j_getR (pc' := 6) f_X6_7 (by assumption) (by assumption) dX6_isPoint_3 rfl ?_
  refine j_iconst (pc' := 7) (v := nI 0) dX6_isPoint_6 rfl rfl ?_
  refine j_ialdv (pc' := 8) (by assumption) rfl (by omega) (by omega) (by first | (simp (disch := omega) only [jx_upS, jx_upK, jx_upA, mI_0, mI_1, mI_2, mI_3, mI_4, mI_5, mI_6, pk_us, pk_un]; rfl) | rfl) dX6_isPoint_7 rfl ?_
  refine j_iconst (pc' := 9) (v := nI 1) dX6_isPoint_8 rfl rfl ?_
  first | refine j_isubN' (pc' := 10) (by with_reducible rfl) (by with_reducible rfl) (by omega) dX6_isPoint_9 rfl ?_ | refine j_isub (pc' := 10) dX6_isPoint_9 rfl ?_
  refine j_cSi (pc' := 13) m_X6_32 (c_X6_in E l n kd R _ _ _ _) rfl rfl ⟨Nat.le_of_ble_eq_true rfl, Nat.le_of_ble_eq_true rfl⟩ ⟨Nat.zero_le _, Nat.zero_le _⟩ (Nat.le_of_ble_eq_true rfl) dX6_isPoint_10 rfl (fun x1 I1 hq => ?_)
  obtain ⟨rfl, rfl⟩ := hq
  refine j_reti dX6_isPoint_13 rfl (by first | rfl | exact bi_n _) ?_
  exact ⟨rfl, rfl⟩

set_option maxRecDepth 100000 in
set_option maxHeartbeats 4000000 in
theorem c_X6_isValue (E : jx_E) (l : Launch) (n : Nat) (kd : jx_K) (R : jx_R) (I : jx_I) (x : Int32)  : jx_Ci E l yX6_isValue cX6_isValue 1 (some .boolean) 1 n kd R I [.int x] (fun r I' => r = bi (okV x) ∧ I' = I) := by
  refine jx_C0.ofJ RX6 [some (.int x)] (by decide) rfl rfl (Nat.le_of_ble_eq_true rfl) rfl ?_
  refine j_iload_n (pc' := 1) dX6_isValue_0 rfl rfl ?_
  refine j_sipush (pc' := 4) (v := -10000) dX6_isValue_1 rfl rfl ?_
  refine j_sipush (pc' := 7) (v := nI 10000) dX6_isValue_4 rfl rfl ?_
  refine j_cSi (pc' := 10) m_X6_32 (c_X6_in E l n kd R _ _ _ _) rfl rfl ⟨Nat.le_of_ble_eq_true rfl, Nat.le_of_ble_eq_true rfl⟩ ⟨Nat.zero_le _, Nat.zero_le _⟩ (Nat.le_of_ble_eq_true rfl) dX6_isValue_7 rfl (fun x1 I1 hq => ?_)
  obtain ⟨rfl, rfl⟩ := hq
  refine j_reti dX6_isValue_10 rfl (by first | rfl | exact bi_n _) ?_
  exact ⟨rfl, rfl⟩

set_option maxRecDepth 100000 in
set_option maxHeartbeats 4000000 in
theorem c_X6_happens {E : jx_E} {l : Launch} {n : Nat} {kd : jx_K} {R : jx_R} {I0 : jx_I} {m : Nat} {F v a p o t c : Nat → Int32} {N : Nat} {w x : Int32} (hs : sMd kd R m) (hN : v 9 = nI N) (hNb : N < 2147483000) : jx_Cv E l yX6_happens cX6_happens 4 none 0 n kd R (mI I0 m F v a p o t c) [.ref m, .int w, .int x] (fun I' => I' = mI I0 m F (sHap v w x) a p o t c) := by
  obtain ⟨K0, K1, K2, K3, K4, K5, K6, R0, R1, R2, R4, R6, R10⟩ := id hs
  refine jx_C0.ofJ RX6 [some (.ref m), some (.int w), some (.int x), none] (by decide) rfl rfl (Nat.le_of_ble_eq_true rfl) rfl ?_
  refine j_bipush (pc' := 2) (v := nI 80) dX6_happens_0 rfl rfl ?_
  refine j_iconst (pc' := 3) (v := nI 3) dX6_happens_2 rfl rfl ?_
  refine j_aload_n (pc' := 4) dX6_happens_3 rfl rfl ?_
  refine j_getR (pc' := 7) f_X6_7 (by assumption) (by assumption) dX6_happens_4 rfl ?_
  refine j_bipush (pc' := 9) (v := nI 9) dX6_happens_7 rfl rfl ?_
  refine j_ialdv (pc' := 10) (by assumption) rfl (by omega) (by omega) (by first | (simp (disch := omega) only [jx_upS, jx_upK, jx_upA, mI_0, mI_1, mI_2, mI_3, mI_4, mI_5, mI_6, pk_us, pk_un, hN]; rfl) | rfl) dX6_happens_9 rfl ?_
  refine j_bipush (pc' := 12) (v := nI 30) dX6_happens_10 rfl rfl ?_
  refine j_iremN' (pc' := 13) (by with_reducible rfl) (by with_reducible rfl) (by omega) (by omega) (by omega) dX6_happens_12 rfl ?_
  first | refine j_imulN' (pc' := 14) (by with_reducible rfl) (by with_reducible rfl) dX6_happens_13 rfl ?_ | refine j_imul (pc' := 14) dX6_happens_13 rfl ?_
  first | refine j_iaddN' (pc' := 15) (by with_reducible rfl) (by with_reducible rfl) dX6_happens_14 rfl ?_ | refine j_iadd (pc' := 15) dX6_happens_14 rfl ?_
  refine j_istore_n (pc' := 16) (lv' := [_, _, _, _]) dX6_happens_15 rfl (by decide) rfl ?_
  refine j_aload_n (pc' := 17) dX6_happens_16 rfl rfl ?_
  refine j_getR (pc' := 20) f_X6_7 (by assumption) (by assumption) dX6_happens_17 rfl ?_
  refine j_iload_n (pc' := 21) dX6_happens_20 rfl rfl ?_
  refine j_aload_n (pc' := 22) dX6_happens_21 rfl rfl ?_
  refine j_getR (pc' := 25) f_X6_7 (by assumption) (by assumption) dX6_happens_22 rfl ?_
  refine j_iconst (pc' := 26) (v := nI 1) dX6_happens_25 rfl rfl ?_
  refine j_ialdv (pc' := 27) (by assumption) rfl (by omega) (by omega) (by first | (simp (disch := omega) only [jx_upS, jx_upK, jx_upA, mI_0, mI_1, mI_2, mI_3, mI_4, mI_5, mI_6, pk_us, pk_un, hN]; rfl) | rfl) dX6_happens_26 rfl ?_
  refine j_iast (pc' := 28) (by assumption) rfl (by omega) (by omega) dX6_happens_27 rfl ?_
  first | refine j_eqI mW_1 ?_ | refine j_eqI mW_2 ?_ | refine j_eqI mW_3 ?_ | refine j_eqI mW_4 ?_ | refine j_eqI mW_5 ?_ | refine j_eqI mW_6 ?_
  refine j_aload_n (pc' := 29) dX6_happens_28 rfl rfl ?_
  refine j_getR (pc' := 32) f_X6_7 (by assumption) (by assumption) dX6_happens_29 rfl ?_
  refine j_iload_n (pc' := 33) dX6_happens_32 rfl rfl ?_
  refine j_iconst (pc' := 34) (v := nI 1) dX6_happens_33 rfl rfl ?_
  first | refine j_iaddN' (pc' := 35) (by with_reducible rfl) (by with_reducible rfl) dX6_happens_34 rfl ?_ | refine j_iadd (pc' := 35) dX6_happens_34 rfl ?_
  refine j_iload_n (pc' := 36) dX6_happens_35 rfl rfl ?_
  refine j_iast (pc' := 37) (by assumption) rfl (by omega) (by omega) dX6_happens_36 rfl ?_
  first | refine j_eqI mW_1 ?_ | refine j_eqI mW_2 ?_ | refine j_eqI mW_3 ?_ | refine j_eqI mW_4 ?_ | refine j_eqI mW_5 ?_ | refine j_eqI mW_6 ?_
  refine j_aload_n (pc' := 38) dX6_happens_37 rfl rfl ?_
  refine j_getR (pc' := 41) f_X6_7 (by assumption) (by assumption) dX6_happens_38 rfl ?_
  refine j_iload_n (pc' := 42) dX6_happens_41 rfl rfl ?_
  refine j_iconst (pc' := 43) (v := nI 2) dX6_happens_42 rfl rfl ?_
  first | refine j_iaddN' (pc' := 44) (by with_reducible rfl) (by with_reducible rfl) dX6_happens_43 rfl ?_ | refine j_iadd (pc' := 44) dX6_happens_43 rfl ?_
  refine j_iload_n (pc' := 45) dX6_happens_44 rfl rfl ?_
  refine j_iast (pc' := 46) (by assumption) rfl (by omega) (by omega) dX6_happens_45 rfl ?_
  first | refine j_eqI mW_1 ?_ | refine j_eqI mW_2 ?_ | refine j_eqI mW_3 ?_ | refine j_eqI mW_4 ?_ | refine j_eqI mW_5 ?_ | refine j_eqI mW_6 ?_
  refine j_aload_n (pc' := 47) dX6_happens_46 rfl rfl ?_
  refine j_getR (pc' := 50) f_X6_7 (by assumption) (by assumption) dX6_happens_47 rfl ?_
  refine j_bipush (pc' := 52) (v := nI 9) dX6_happens_50 rfl rfl ?_
  refine j_dup2 (pc' := 53) dX6_happens_52 rfl rfl rfl ?_
  refine j_ialdv (pc' := 54) (by assumption) rfl (by omega) (by omega) (by first | (simp (disch := omega) only [jx_upS, jx_upK, jx_upA, mI_0, mI_1, mI_2, mI_3, mI_4, mI_5, mI_6, pk_us, pk_un, hN]; rfl) | rfl) dX6_happens_53 rfl ?_
  refine j_iconst (pc' := 55) (v := nI 1) dX6_happens_54 rfl rfl ?_
  first | refine j_iaddN' (pc' := 56) (by with_reducible rfl) (by with_reducible rfl) dX6_happens_55 rfl ?_ | refine j_iadd (pc' := 56) dX6_happens_55 rfl ?_
  refine j_iast (pc' := 57) (by assumption) rfl (by omega) (by omega) dX6_happens_56 rfl ?_
  first | refine j_eqI mW_1 ?_ | refine j_eqI mW_2 ?_ | refine j_eqI mW_3 ?_ | refine j_eqI mW_4 ?_ | refine j_eqI mW_5 ?_ | refine j_eqI mW_6 ?_
  refine j_retv dX6_happens_57 rfl ?_
  rw [sHap, evN_of hN hNb]
  rfl

set_option maxRecDepth 100000 in
set_option maxHeartbeats 4000000 in
theorem c_X6_leavesShelf {E : jx_E} {l : Launch} {n : Nat} {kd : jx_K} {R : jx_R} {I0 : jx_I} {m : Nat} {F v a p o t c : Nat → Int32} {i N : Nat} (hs : sMd kd R m) (hi : i < 16) (hN : v 9 = nI N) (hNb : N < 2147483000) : jx_Cv E l yX6_leavesShelf cX6_leavesShelf 2 none 1 n kd R (mI I0 m F v a p o t c) [.ref m, .int (nI i)] (fun I' => I' = mI I0 m F (sHap (upd v (176 + 56 * i + 13) (nI 0)) (nI 5) (nI i)) a p o t c) := by
  obtain ⟨K0, K1, K2, K3, K4, K5, K6, R0, R1, R2, R4, R6, R10⟩ := id hs
  refine jx_C0.ofJ RX6 [some (.ref m), some (.int (nI i))] (by decide) rfl rfl (Nat.le_of_ble_eq_true rfl) rfl ?_
  refine j_aload_n (pc' := 1) dX6_leavesShelf_0 rfl rfl ?_
  refine j_iload_n (pc' := 2) dX6_leavesShelf_1 rfl rfl ?_
  refine j_bipush (pc' := 4) (v := nI 13) dX6_leavesShelf_2 rfl rfl ?_
  refine j_iconst (pc' := 5) (v := nI 0) dX6_leavesShelf_4 rfl rfl ?_
  refine j_cVv (pc' := 8) m_X6_44 (c_X6_puts hs (by omega) (by omega)) (by assumption) (by decide) rfl rfl rfl ⟨Nat.le_of_ble_eq_true rfl, Nat.le_of_ble_eq_true rfl⟩ ⟨Nat.zero_le _, Nat.zero_le _⟩ (Nat.le_of_ble_eq_true rfl) dX6_leavesShelf_5 rfl (fun I1 hq => ?_)
  subst hq
  refine j_aload_n (pc' := 9) dX6_leavesShelf_8 rfl rfl ?_
  refine j_iconst (pc' := 10) (v := nI 5) dX6_leavesShelf_9 rfl rfl ?_
  refine j_iload_n (pc' := 11) dX6_leavesShelf_10 rfl rfl ?_
  refine j_cVv (pc' := 14) m_X6_48 (c_X6_happens hs (by simp (disch := omega) only [pk_us, pk_un, hN]) hNb) (by assumption) (by decide) rfl rfl rfl ⟨Nat.le_of_ble_eq_true rfl, Nat.le_of_ble_eq_true rfl⟩ ⟨Nat.zero_le _, Nat.zero_le _⟩ (Nat.le_of_ble_eq_true rfl) dX6_leavesShelf_11 rfl (fun I1 hq => ?_)
  subst hq
  refine j_retv dX6_leavesShelf_14 rfl ?_
  rfl

set_option maxRecDepth 100000 in
set_option maxHeartbeats 4000000 in
theorem c_X6_values {E : jx_E} {l : Launch} {n : Nat} {kd : jx_K} {R : jx_R} {I0 : jx_I} {m : Nat} {F v a p o t c : Nat → Int32} {k : Nat} {x y : Int32} (hs : sMd kd R m) (hk : v 0 = nI k) (h16 : k ≤ 16) : jx_Ci E l yX6_values cX6_values 4 (some .int) 2 n kd R (mI I0 m F v a p o t c) [.ref m, .int x, .int y] (fun r I' => (okP v x = true ∧ okV y = true ∧ r = v (176 + 56 * x.toNatClampNeg + 7) ∧ I' = mI I0 m F (upd v (176 + 56 * x.toNatClampNeg + 7) y) a p o t c) ∨ ((okP v x = false ∨ okV y = false) ∧ r = -20001 ∧ I' = mI I0 m F v a p o t c)) := by
  obtain ⟨K0, K1, K2, K3, K4, K5, K6, R0, R1, R2, R4, R6, R10⟩ := id hs
  refine jx_C0.ofJ RX6 [some (.ref m), some (.int x), some (.int y), none] (by decide) rfl rfl (Nat.le_of_ble_eq_true rfl) rfl ?_
  refine j_aload_n (pc' := 1) dX6_values_0 rfl rfl ?_
  refine j_iload_n (pc' := 2) dX6_values_1 rfl rfl ?_
  refine j_cVi (pc' := 5) m_X6_52 (c_X6_isPoint hs) (by assumption) (by decide) rfl rfl rfl ⟨Nat.le_of_ble_eq_true rfl, Nat.le_of_ble_eq_true rfl⟩ ⟨Nat.zero_le _, Nat.zero_le _⟩ (Nat.le_of_ble_eq_true rfl) dX6_values_2 rfl (fun x1 I1 hq => ?_)
  obtain ⟨rfl, rfl⟩ := hq
  first | refine j_if_eqB' (tgt := 15) (pc' := 8) (by with_reducible rfl) dX6_values_5 rfl (by decide) (fun c5 => ?_) (fun c5 => ?_) | refine j_if_eqN' (tgt := 15) (pc' := 8) (by with_reducible rfl) (by omega) dX6_values_5 rfl (by decide) (fun c5 => ?_) (fun c5 => ?_) | refine j_if_eq (tgt := 15) (pc' := 8) dX6_values_5 rfl (by decide) (fun c5 => ?_) (fun c5 => ?_)
  ·
    refine j_sipush (pc' := 18) (v := -20001) dX6_values_15 rfl rfl ?_
    refine j_reti dX6_values_18 rfl (by first | rfl | exact bi_n _) ?_
    first | exact Or.inr ⟨Or.inl (by assumption), rfl, rfl⟩ | exact Or.inr ⟨Or.inr (by assumption), rfl, rfl⟩ | (refine Or.inl ⟨by assumption, by assumption, ?_, ?_⟩ <;> rw [nI_clamp (by omega)])
  ·
    refine j_iload_n (pc' := 9) dX6_values_8 rfl rfl ?_
    refine j_cSi (pc' := 12) m_X6_36 (c_X6_isValue E l n kd R _ _) rfl rfl ⟨Nat.le_of_ble_eq_true rfl, Nat.le_of_ble_eq_true rfl⟩ ⟨Nat.zero_le _, Nat.zero_le _⟩ (Nat.le_of_ble_eq_true rfl) dX6_values_9 rfl (fun x1 I1 hq => ?_)
    obtain ⟨rfl, rfl⟩ := hq
    first | refine j_if_neB' (tgt := 19) (pc' := 15) (by with_reducible rfl) dX6_values_12 rfl (by decide) (fun c12 => ?_) (fun c12 => ?_) | refine j_if_neN' (tgt := 19) (pc' := 15) (by with_reducible rfl) (by omega) dX6_values_12 rfl (by decide) (fun c12 => ?_) (fun c12 => ?_) | refine j_if_ne (tgt := 19) (pc' := 15) dX6_values_12 rfl (by decide) (fun c12 => ?_) (fun c12 => ?_)
    ·
      have hok := c5
      obtain ⟨i, hi, rfl⟩ := okP_nat hk h16 c5
      refine j_aload_n (pc' := 20) dX6_values_19 rfl rfl ?_
      refine j_iload_n (pc' := 21) dX6_values_20 rfl rfl ?_
      refine j_bipush (pc' := 23) (v := nI 7) dX6_values_21 rfl rfl ?_
      refine j_cVi (pc' := 26) m_X6_59 (c_X6_of hs (by omega) (by omega)) (by assumption) (by decide) rfl rfl rfl ⟨Nat.le_of_ble_eq_true rfl, Nat.le_of_ble_eq_true rfl⟩ ⟨Nat.zero_le _, Nat.zero_le _⟩ (Nat.le_of_ble_eq_true rfl) dX6_values_23 rfl (fun x1 I1 hq => ?_)
      obtain ⟨rfl, rfl⟩ := hq
      refine j_istore_n (pc' := 27) (lv' := [_, _, _, _]) dX6_values_26 rfl (by decide) rfl ?_
      refine j_aload_n (pc' := 28) dX6_values_27 rfl rfl ?_
      refine j_iload_n (pc' := 29) dX6_values_28 rfl rfl ?_
      refine j_bipush (pc' := 31) (v := nI 7) dX6_values_29 rfl rfl ?_
      refine j_iload_n (pc' := 32) dX6_values_31 rfl rfl ?_
      refine j_cVv (pc' := 35) m_X6_44 (c_X6_puts hs (by omega) (by omega)) (by assumption) (by decide) rfl rfl rfl ⟨Nat.le_of_ble_eq_true rfl, Nat.le_of_ble_eq_true rfl⟩ ⟨Nat.zero_le _, Nat.zero_le _⟩ (Nat.le_of_ble_eq_true rfl) dX6_values_32 rfl (fun I1 hq => ?_)
      subst hq
      refine j_iload_n (pc' := 36) dX6_values_35 rfl rfl ?_
      refine j_reti dX6_values_36 rfl (by first | rfl | exact bi_n _) ?_
      first | exact Or.inr ⟨Or.inl (by assumption), rfl, rfl⟩ | exact Or.inr ⟨Or.inr (by assumption), rfl, rfl⟩ | (refine Or.inl ⟨by assumption, by assumption, ?_, ?_⟩ <;> rw [nI_clamp (by omega)])
    ·
      refine j_sipush (pc' := 18) (v := -20001) dX6_values_15 rfl rfl ?_
      refine j_reti dX6_values_18 rfl (by first | rfl | exact bi_n _) ?_
      first | exact Or.inr ⟨Or.inl (by assumption), rfl, rfl⟩ | exact Or.inr ⟨Or.inr (by assumption), rfl, rfl⟩ | (refine Or.inl ⟨by assumption, by assumption, ?_, ?_⟩ <;> rw [nI_clamp (by omega)])

set_option maxRecDepth 100000 in
set_option maxHeartbeats 4000000 in
theorem c_X6_points {E : jx_E} {l : Launch} {n : Nat} {kd : jx_K} {R : jx_R} {I0 : jx_I} {m : Nat} {F v a p o t c : Nat → Int32}  (hs : sMd kd R m)  : jx_Ci E l yX6_points cX6_points 1 (some .int) 0 n kd R (mI I0 m F v a p o t c) [.ref m] (fun r I' => r = v 0 ∧ I' = mI I0 m F v a p o t c) := by
  obtain ⟨K0, K1, K2, K3, K4, K5, K6, R0, R1, R2, R4, R6, R10⟩ := id hs
  refine jx_C0.ofJ RX6 [some (.ref m)] (by decide) rfl rfl (Nat.le_of_ble_eq_true rfl) rfl ?_
  refine j_aload_n (pc' := 1) dX6_points_0 rfl rfl ?_
  refine j_getR (pc' := 4) f_X6_7 (by assumption) (by assumption) dX6_points_1 rfl ?_
  refine j_iconst (pc' := 5) (v := nI 0) dX6_points_4 rfl rfl ?_
  refine j_ialdv (pc' := 6) (by assumption) rfl (by omega) (by omega) (by first | (simp (disch := omega) only [jx_upS, jx_upK, jx_upA, mI_0, mI_1, mI_2, mI_3, mI_4, mI_5, mI_6, pk_us, pk_un]; rfl) | rfl) dX6_points_5 rfl ?_
  refine j_reti dX6_points_6 rfl (by first | rfl | exact bi_n _) ?_
  exact ⟨rfl, rfl⟩

set_option maxRecDepth 100000 in
set_option maxHeartbeats 4000000 in
theorem c_X6_events {E : jx_E} {l : Launch} {n : Nat} {kd : jx_K} {R : jx_R} {I0 : jx_I} {m : Nat} {F v a p o t c : Nat → Int32}  (hs : sMd kd R m)  : jx_Ci E l yX6_events cX6_events 1 (some .int) 0 n kd R (mI I0 m F v a p o t c) [.ref m] (fun r I' => r = v 9 ∧ I' = mI I0 m F v a p o t c) := by
  obtain ⟨K0, K1, K2, K3, K4, K5, K6, R0, R1, R2, R4, R6, R10⟩ := id hs
  refine jx_C0.ofJ RX6 [some (.ref m)] (by decide) rfl rfl (Nat.le_of_ble_eq_true rfl) rfl ?_
  refine j_aload_n (pc' := 1) dX6_events_0 rfl rfl ?_
  refine j_getR (pc' := 4) f_X6_7 (by assumption) (by assumption) dX6_events_1 rfl ?_
  refine j_bipush (pc' := 6) (v := nI 9) dX6_events_4 rfl rfl ?_
  refine j_ialdv (pc' := 7) (by assumption) rfl (by omega) (by omega) (by first | (simp (disch := omega) only [jx_upS, jx_upK, jx_upA, mI_0, mI_1, mI_2, mI_3, mI_4, mI_5, mI_6, pk_us, pk_un]; rfl) | rfl) dX6_events_6 rfl ?_
  refine j_reti dX6_events_7 rfl (by first | rfl | exact bi_n _) ?_
  exact ⟨rfl, rfl⟩

set_option maxRecDepth 100000 in
set_option maxHeartbeats 4000000 in
theorem c_X6_states {E : jx_E} {l : Launch} {n : Nat} {kd : jx_K} {R : jx_R} {I0 : jx_I} {m : Nat} {F v a p o t c : Nat → Int32} {x : Int32} (hs : sMd kd R m)  : jx_Ci E l yX6_states cX6_states 3 (some .int) 1 n kd R (mI I0 m F v a p o t c) [.ref m, .int x] (fun r I' => (nI 0 ≤ x ∧ x ≤ nI 3 ∧ r = v 2 ∧ I' = mI I0 m F (upd v 2 x) a p o t c) ∨ (¬ (nI 0 ≤ x ∧ x ≤ nI 3) ∧ r = -20001 ∧ I' = mI I0 m F v a p o t c)) := by
  obtain ⟨K0, K1, K2, K3, K4, K5, K6, R0, R1, R2, R4, R6, R10⟩ := id hs
  refine jx_C0.ofJ RX6 [some (.ref m), some (.int x), none] (by decide) rfl rfl (Nat.le_of_ble_eq_true rfl) rfl ?_
  refine j_iload_n (pc' := 1) dX6_states_0 rfl rfl ?_
  refine j_iconst (pc' := 2) (v := nI 0) dX6_states_1 rfl rfl ?_
  refine j_iconst (pc' := 3) (v := nI 3) dX6_states_2 rfl rfl ?_
  refine j_cSi (pc' := 6) m_X6_32 (c_X6_in E l n kd R _ _ _ _) rfl rfl ⟨Nat.le_of_ble_eq_true rfl, Nat.le_of_ble_eq_true rfl⟩ ⟨Nat.zero_le _, Nat.zero_le _⟩ (Nat.le_of_ble_eq_true rfl) dX6_states_3 rfl (fun x1 I1 hq => ?_)
  obtain ⟨rfl, rfl⟩ := hq
  first | refine j_if_neB' (tgt := 13) (pc' := 9) (by with_reducible rfl) dX6_states_6 rfl (by decide) (fun c6 => ?_) (fun c6 => ?_) | refine j_if_neN' (tgt := 13) (pc' := 9) (by with_reducible rfl) (by omega) dX6_states_6 rfl (by decide) (fun c6 => ?_) (fun c6 => ?_) | refine j_if_ne (tgt := 13) (pc' := 9) dX6_states_6 rfl (by decide) (fun c6 => ?_) (fun c6 => ?_)
  ·
    refine j_aload_n (pc' := 14) dX6_states_13 rfl rfl ?_
    refine j_getR (pc' := 17) f_X6_7 (by assumption) (by assumption) dX6_states_14 rfl ?_
    refine j_iconst (pc' := 18) (v := nI 2) dX6_states_17 rfl rfl ?_
    refine j_ialdv (pc' := 19) (by assumption) rfl (by omega) (by omega) (by first | (simp (disch := omega) only [jx_upS, jx_upK, jx_upA, mI_0, mI_1, mI_2, mI_3, mI_4, mI_5, mI_6, pk_us, pk_un]; rfl) | rfl) dX6_states_18 rfl ?_
    refine j_istore_n (pc' := 20) (lv' := [_, _, _]) dX6_states_19 rfl (by decide) rfl ?_
    refine j_aload_n (pc' := 21) dX6_states_20 rfl rfl ?_
    refine j_getR (pc' := 24) f_X6_7 (by assumption) (by assumption) dX6_states_21 rfl ?_
    refine j_iconst (pc' := 25) (v := nI 2) dX6_states_24 rfl rfl ?_
    refine j_iload_n (pc' := 26) dX6_states_25 rfl rfl ?_
    refine j_iast (pc' := 27) (by assumption) rfl (by omega) (by omega) dX6_states_26 rfl ?_
    first | refine j_eqI mW_1 ?_ | refine j_eqI mW_2 ?_ | refine j_eqI mW_3 ?_ | refine j_eqI mW_4 ?_ | refine j_eqI mW_5 ?_ | refine j_eqI mW_6 ?_
    refine j_iload_n (pc' := 28) dX6_states_27 rfl rfl ?_
    refine j_reti dX6_states_28 rfl (by first | rfl | exact bi_n _) ?_
    first | exact Or.inr ⟨of_decide_eq_false (by assumption), rfl, rfl⟩ | (have hz := of_decide_eq_true (by assumption); exact Or.inl ⟨hz.1, hz.2, rfl, rfl⟩)
  ·
    refine j_sipush (pc' := 12) (v := -20001) dX6_states_9 rfl rfl ?_
    refine j_reti dX6_states_12 rfl (by first | rfl | exact bi_n _) ?_
    first | exact Or.inr ⟨of_decide_eq_false (by assumption), rfl, rfl⟩ | (have hz := of_decide_eq_true (by assumption); exact Or.inl ⟨hz.1, hz.2, rfl, rfl⟩)

set_option maxRecDepth 100000 in
set_option maxHeartbeats 4000000 in
theorem c_X6_stands {E : jx_E} {l : Launch} {n : Nat} {kd : jx_K} {R : jx_R} {I0 : jx_I} {m : Nat} {F v a p o t c : Nat → Int32} {i : Nat} (hs : sMd kd R m) (hi : i < 16) : jx_Ci E l yX6_stands cX6_stands 2 (some .boolean) 1 n kd R (mI I0 m F v a p o t c) [.ref m, .int (nI i)] (fun r I' => r = bi (decide (v (176 + 56 * i + 9) = nI 1) || decide (v (176 + 56 * i + 10) = 0)) ∧ I' = mI I0 m F v a p o t c) := by
  obtain ⟨K0, K1, K2, K3, K4, K5, K6, R0, R1, R2, R4, R6, R10⟩ := id hs
  refine jx_C0.ofJ RX6 [some (.ref m), some (.int (nI i))] (by decide) rfl rfl (Nat.le_of_ble_eq_true rfl) rfl ?_
  refine j_aload_n (pc' := 1) dX6_stands_0 rfl rfl ?_
  refine j_iload_n (pc' := 2) dX6_stands_1 rfl rfl ?_
  refine j_bipush (pc' := 4) (v := nI 9) dX6_stands_2 rfl rfl ?_
  refine j_cVi (pc' := 7) m_X6_59 (c_X6_of hs (by omega) (by omega)) (by assumption) (by decide) rfl rfl rfl ⟨Nat.le_of_ble_eq_true rfl, Nat.le_of_ble_eq_true rfl⟩ ⟨Nat.zero_le _, Nat.zero_le _⟩ (Nat.le_of_ble_eq_true rfl) dX6_stands_4 rfl (fun x1 I1 hq => ?_)
  obtain ⟨rfl, rfl⟩ := hq
  refine j_iconst (pc' := 8) (v := nI 1) dX6_stands_7 rfl rfl ?_
  first | refine j_icmp_eqN' (tgt := 21) (pc' := 11) (by with_reducible rfl) (by with_reducible rfl) (by omega) (by omega) dX6_stands_8 rfl (by decide) (fun c8 => ?_) (fun c8 => ?_) | refine j_icmp_eq (tgt := 21) (pc' := 11) dX6_stands_8 rfl (by decide) (fun c8 => ?_) (fun c8 => ?_)
  ·
    refine j_iconst (pc' := 22) (v := nI 1) dX6_stands_21 rfl rfl ?_
    refine j_goto (tgt := 26) dX6_stands_22 (by decide) ?_
    refine j_reti dX6_stands_26 rfl (by first | rfl | exact bi_n _) ?_
    refine ⟨?_, rfl⟩
    first | (refine bi_T ?_; simp only [c8, decide_true, decide_false, Bool.or_true, Bool.true_or, Bool.or_false]; done) | (refine bi_F ?_; simp only [c8, decide_true, decide_false, Bool.or_false]; done)
  ·
    refine j_aload_n (pc' := 12) dX6_stands_11 rfl rfl ?_
    refine j_iload_n (pc' := 13) dX6_stands_12 rfl rfl ?_
    refine j_bipush (pc' := 15) (v := nI 10) dX6_stands_13 rfl rfl ?_
    refine j_cVi (pc' := 18) m_X6_59 (c_X6_of hs (by omega) (by omega)) (by assumption) (by decide) rfl rfl rfl ⟨Nat.le_of_ble_eq_true rfl, Nat.le_of_ble_eq_true rfl⟩ ⟨Nat.zero_le _, Nat.zero_le _⟩ (Nat.le_of_ble_eq_true rfl) dX6_stands_15 rfl (fun x1 I1 hq => ?_)
    obtain ⟨rfl, rfl⟩ := hq
    first | refine j_if_neB' (tgt := 25) (pc' := 21) (by with_reducible rfl) dX6_stands_18 rfl (by decide) (fun c18 => ?_) (fun c18 => ?_) | refine j_if_neN' (tgt := 25) (pc' := 21) (by with_reducible rfl) (by omega) dX6_stands_18 rfl (by decide) (fun c18 => ?_) (fun c18 => ?_) | refine j_if_ne (tgt := 25) (pc' := 21) dX6_stands_18 rfl (by decide) (fun c18 => ?_) (fun c18 => ?_)
    ·
      refine j_iconst (pc' := 26) (v := nI 0) dX6_stands_25 rfl rfl ?_
      refine j_reti dX6_stands_26 rfl (by first | rfl | exact bi_n _) ?_
      refine ⟨?_, rfl⟩
      first | (refine bi_T ?_; simp only [c8, c18, decide_true, decide_false, Bool.or_true, Bool.true_or, Bool.or_false]; done) | (refine bi_F ?_; simp only [c8, c18, decide_true, decide_false, Bool.or_false]; done)
    ·
      refine j_iconst (pc' := 22) (v := nI 1) dX6_stands_21 rfl rfl ?_
      refine j_goto (tgt := 26) dX6_stands_22 (by decide) ?_
      refine j_reti dX6_stands_26 rfl (by first | rfl | exact bi_n _) ?_
      refine ⟨?_, rfl⟩
      first | (refine bi_T ?_; simp only [c8, c18, decide_true, decide_false, Bool.or_true, Bool.true_or, Bool.or_false]; done) | (refine bi_F ?_; simp only [c8, c18, decide_true, decide_false, Bool.or_false]; done)

def sOv (kind limit x : Int32) : Bool := if kind = 0 then decide (limit ≤ x) else decide (x ≤ limit)
def sCl (kind limit dead x : Int32) : Bool := if dead = 0 then !sOv kind limit x else if kind = 0 then decide (x < limit - dead) else decide (limit + dead < x)

set_option maxRecDepth 100000 in
set_option maxHeartbeats 4000000 in
theorem c_X6_isOver (E : jx_E) (l : Launch) (n : Nat) (kd : jx_K) (R : jx_R) (I : jx_I) (a b x : Int32)  : jx_Ci E l yX6_isOver cX6_isOver 3 (some .boolean) 0 n kd R I [.int a, .int b, .int x] (fun r I' => r = bi (sOv a b x) ∧ I' = I) := by
  refine jx_C0.ofJ RX6 [some (.int a), some (.int b), some (.int x)] (by decide) rfl rfl (Nat.le_of_ble_eq_true rfl) rfl ?_
  refine j_iload_n (pc' := 1) dX6_isOver_0 rfl rfl ?_
  first | refine j_if_neB' (tgt := 17) (pc' := 4) (by with_reducible rfl) dX6_isOver_1 rfl (by decide) (fun c1 => ?_) (fun c1 => ?_) | refine j_if_neN' (tgt := 17) (pc' := 4) (by with_reducible rfl) (by omega) dX6_isOver_1 rfl (by decide) (fun c1 => ?_) (fun c1 => ?_) | refine j_if_ne (tgt := 17) (pc' := 4) dX6_isOver_1 rfl (by decide) (fun c1 => ?_) (fun c1 => ?_)
  ·
    refine j_iload_n (pc' := 18) dX6_isOver_17 rfl rfl ?_
    refine j_iload_n (pc' := 19) dX6_isOver_18 rfl rfl ?_
    first | refine j_icmp_gtN' (tgt := 26) (pc' := 22) (by with_reducible rfl) (by with_reducible rfl) (by omega) (by omega) dX6_isOver_19 rfl (by decide) (fun c19 => ?_) (fun c19 => ?_) | refine j_icmp_gt (tgt := 26) (pc' := 22) dX6_isOver_19 rfl (by decide) (fun c19 => ?_) (fun c19 => ?_)
    ·
      refine j_iconst (pc' := 27) (v := nI 0) dX6_isOver_26 rfl rfl ?_
      refine j_reti dX6_isOver_27 rfl (by first | rfl | exact bi_n _) ?_
      refine ⟨?_, rfl⟩
      first | (refine bi_T ?_; simp_all [sOv, sCl]; done) | (refine bi_F ?_; simp_all [sOv, sCl]; done) | (unfold sCl; simp_all [bi]; done)
    ·
      refine j_iconst (pc' := 23) (v := nI 1) dX6_isOver_22 rfl rfl ?_
      refine j_goto (tgt := 27) dX6_isOver_23 (by decide) ?_
      refine j_reti dX6_isOver_27 rfl (by first | rfl | exact bi_n _) ?_
      refine ⟨?_, rfl⟩
      first | (refine bi_T ?_; simp_all [sOv, sCl]; done) | (refine bi_F ?_; simp_all [sOv, sCl]; done) | (unfold sCl; simp_all [bi]; done)
  ·
    refine j_iload_n (pc' := 5) dX6_isOver_4 rfl rfl ?_
    refine j_iload_n (pc' := 6) dX6_isOver_5 rfl rfl ?_
    first | refine j_icmp_ltN' (tgt := 13) (pc' := 9) (by with_reducible rfl) (by with_reducible rfl) (by omega) (by omega) dX6_isOver_6 rfl (by decide) (fun c6 => ?_) (fun c6 => ?_) | refine j_icmp_lt (tgt := 13) (pc' := 9) dX6_isOver_6 rfl (by decide) (fun c6 => ?_) (fun c6 => ?_)
    ·
      refine j_iconst (pc' := 14) (v := nI 0) dX6_isOver_13 rfl rfl ?_
      refine j_goto (tgt := 27) dX6_isOver_14 (by decide) ?_
      refine j_reti dX6_isOver_27 rfl (by first | rfl | exact bi_n _) ?_
      refine ⟨?_, rfl⟩
      first | (refine bi_T ?_; simp_all [sOv, sCl]; done) | (refine bi_F ?_; simp_all [sOv, sCl]; done) | (unfold sCl; simp_all [bi]; done)
    ·
      refine j_iconst (pc' := 10) (v := nI 1) dX6_isOver_9 rfl rfl ?_
      refine j_goto (tgt := 27) dX6_isOver_10 (by decide) ?_
      refine j_reti dX6_isOver_27 rfl (by first | rfl | exact bi_n _) ?_
      refine ⟨?_, rfl⟩
      first | (refine bi_T ?_; simp_all [sOv, sCl]; done) | (refine bi_F ?_; simp_all [sOv, sCl]; done) | (unfold sCl; simp_all [bi]; done)

set_option maxRecDepth 100000 in
set_option maxHeartbeats 4000000 in
theorem c_X6_isClear (E : jx_E) (l : Launch) (n : Nat) (kd : jx_K) (R : jx_R) (I : jx_I) (a b c x : Int32)  : jx_Ci E l yX6_isClear cX6_isClear 4 (some .boolean) 1 n kd R I [.int a, .int b, .int c, .int x] (fun r I' => r = bi (sCl a b c x) ∧ I' = I) := by
  refine jx_C0.ofJ RX6 [some (.int a), some (.int b), some (.int c), some (.int x)] (by decide) rfl rfl (Nat.le_of_ble_eq_true rfl) rfl ?_
  refine j_iload_n (pc' := 1) dX6_isClear_0 rfl rfl ?_
  first | refine j_if_neB' (tgt := 21) (pc' := 4) (by with_reducible rfl) dX6_isClear_1 rfl (by decide) (fun c1 => ?_) (fun c1 => ?_) | refine j_if_neN' (tgt := 21) (pc' := 4) (by with_reducible rfl) (by omega) dX6_isClear_1 rfl (by decide) (fun c1 => ?_) (fun c1 => ?_) | refine j_if_ne (tgt := 21) (pc' := 4) dX6_isClear_1 rfl (by decide) (fun c1 => ?_) (fun c1 => ?_)
  ·
    refine j_iload_n (pc' := 22) dX6_isClear_21 rfl rfl ?_
    first | refine j_if_neB' (tgt := 40) (pc' := 25) (by with_reducible rfl) dX6_isClear_22 rfl (by decide) (fun c22 => ?_) (fun c22 => ?_) | refine j_if_neN' (tgt := 40) (pc' := 25) (by with_reducible rfl) (by omega) dX6_isClear_22 rfl (by decide) (fun c22 => ?_) (fun c22 => ?_) | refine j_if_ne (tgt := 40) (pc' := 25) dX6_isClear_22 rfl (by decide) (fun c22 => ?_) (fun c22 => ?_)
    ·
      refine j_iload_n (pc' := 41) dX6_isClear_40 rfl rfl ?_
      refine j_iload_n (pc' := 42) dX6_isClear_41 rfl rfl ?_
      refine j_iload_n (pc' := 43) dX6_isClear_42 rfl rfl ?_
      first | refine j_iaddN' (pc' := 44) (by with_reducible rfl) (by with_reducible rfl) dX6_isClear_43 rfl ?_ | refine j_iadd (pc' := 44) dX6_isClear_43 rfl ?_
      first | refine j_icmp_leN' (tgt := 51) (pc' := 47) (by with_reducible rfl) (by with_reducible rfl) (by omega) (by omega) dX6_isClear_44 rfl (by decide) (fun c44 => ?_) (fun c44 => ?_) | refine j_icmp_le (tgt := 51) (pc' := 47) dX6_isClear_44 rfl (by decide) (fun c44 => ?_) (fun c44 => ?_)
      ·
        refine j_iconst (pc' := 52) (v := nI 0) dX6_isClear_51 rfl rfl ?_
        refine j_reti dX6_isClear_52 rfl (by first | rfl | exact bi_n _) ?_
        refine ⟨?_, rfl⟩
        first | (refine bi_T ?_; simp_all [sOv, sCl]; done) | (refine bi_F ?_; simp_all [sOv, sCl]; done) | (unfold sCl; simp_all [bi]; done)
      ·
        refine j_iconst (pc' := 48) (v := nI 1) dX6_isClear_47 rfl rfl ?_
        refine j_goto (tgt := 52) dX6_isClear_48 (by decide) ?_
        refine j_reti dX6_isClear_52 rfl (by first | rfl | exact bi_n _) ?_
        refine ⟨?_, rfl⟩
        first | (refine bi_T ?_; simp_all [sOv, sCl]; done) | (refine bi_F ?_; simp_all [sOv, sCl]; done) | (unfold sCl; simp_all [bi]; done)
    ·
      refine j_iload_n (pc' := 26) dX6_isClear_25 rfl rfl ?_
      refine j_iload_n (pc' := 27) dX6_isClear_26 rfl rfl ?_
      refine j_iload_n (pc' := 28) dX6_isClear_27 rfl rfl ?_
      first | refine j_isubN' (pc' := 29) (by with_reducible rfl) (by with_reducible rfl) (by omega) dX6_isClear_28 rfl ?_ | refine j_isub (pc' := 29) dX6_isClear_28 rfl ?_
      first | refine j_icmp_geN' (tgt := 36) (pc' := 32) (by with_reducible rfl) (by with_reducible rfl) (by omega) (by omega) dX6_isClear_29 rfl (by decide) (fun c29 => ?_) (fun c29 => ?_) | refine j_icmp_ge (tgt := 36) (pc' := 32) dX6_isClear_29 rfl (by decide) (fun c29 => ?_) (fun c29 => ?_)
      ·
        refine j_iconst (pc' := 37) (v := nI 0) dX6_isClear_36 rfl rfl ?_
        refine j_goto (tgt := 52) dX6_isClear_37 (by decide) ?_
        refine j_reti dX6_isClear_52 rfl (by first | rfl | exact bi_n _) ?_
        refine ⟨?_, rfl⟩
        first | (refine bi_T ?_; simp_all [sOv, sCl]; done) | (refine bi_F ?_; simp_all [sOv, sCl]; done) | (unfold sCl; simp_all [bi]; done)
      ·
        refine j_iconst (pc' := 33) (v := nI 1) dX6_isClear_32 rfl rfl ?_
        refine j_goto (tgt := 52) dX6_isClear_33 (by decide) ?_
        refine j_reti dX6_isClear_52 rfl (by first | rfl | exact bi_n _) ?_
        refine ⟨?_, rfl⟩
        first | (refine bi_T ?_; simp_all [sOv, sCl]; done) | (refine bi_F ?_; simp_all [sOv, sCl]; done) | (unfold sCl; simp_all [bi]; done)
  ·
    refine j_iload_n (pc' := 5) dX6_isClear_4 rfl rfl ?_
    refine j_iload_n (pc' := 6) dX6_isClear_5 rfl rfl ?_
    refine j_iload_n (pc' := 7) dX6_isClear_6 rfl rfl ?_
    refine j_cSi (pc' := 10) m_X6_93 (c_X6_isOver E l n kd R _ _ _ _) rfl rfl ⟨Nat.le_of_ble_eq_true rfl, Nat.le_of_ble_eq_true rfl⟩ ⟨Nat.zero_le _, Nat.zero_le _⟩ (Nat.le_of_ble_eq_true rfl) dX6_isClear_7 rfl (fun x1 I1 hq => ?_)
    obtain ⟨rfl, rfl⟩ := hq
    first | refine j_if_neB' (tgt := 17) (pc' := 13) (by with_reducible rfl) dX6_isClear_10 rfl (by decide) (fun c10 => ?_) (fun c10 => ?_) | refine j_if_neN' (tgt := 17) (pc' := 13) (by with_reducible rfl) (by omega) dX6_isClear_10 rfl (by decide) (fun c10 => ?_) (fun c10 => ?_) | refine j_if_ne (tgt := 17) (pc' := 13) dX6_isClear_10 rfl (by decide) (fun c10 => ?_) (fun c10 => ?_)
    ·
      refine j_iconst (pc' := 18) (v := nI 0) dX6_isClear_17 rfl rfl ?_
      refine j_goto (tgt := 52) dX6_isClear_18 (by decide) ?_
      refine j_reti dX6_isClear_52 rfl (by first | rfl | exact bi_n _) ?_
      refine ⟨?_, rfl⟩
      first | (refine bi_T ?_; simp_all [sOv, sCl]; done) | (refine bi_F ?_; simp_all [sOv, sCl]; done) | (unfold sCl; simp_all [bi]; done)
    ·
      refine j_iconst (pc' := 14) (v := nI 1) dX6_isClear_13 rfl rfl ?_
      refine j_goto (tgt := 52) dX6_isClear_14 (by decide) ?_
      refine j_reti dX6_isClear_52 rfl (by first | rfl | exact bi_n _) ?_
      refine ⟨?_, rfl⟩
      first | (refine bi_T ?_; simp_all [sOv, sCl]; done) | (refine bi_F ?_; simp_all [sOv, sCl]; done) | (unfold sCl; simp_all [bi]; done)
