theorem upd_upd {f : Nat → Int32} {k : Nat} {x y : Int32} : upd (upd f k x) k y = upd f k y := by
  funext j
  unfold upd
  by_cases h : j = k <;> simp [h]
def pS (p : Nat → Int32) (i : Nat) : Nat → Int32 := fun j => if j < i then p (j + 1080) else p j
theorem pS_ge {p : Nat → Int32} {i j : Nat} (h : i ≤ j) : pS p i j = p j := by unfold pS; rw [if_neg (by omega)]
theorem pS_step {p : Nat → Int32} {i : Nat} : upd (pS p i) i (p (i + 1080)) = pS p (i + 1) := by
  funext j
  unfold upd pS
  by_cases h : j = i
  · subst h; simp
  · by_cases h2 : j < i
    · rw [if_neg h, if_pos h2, if_pos (by omega)]
    · rw [if_neg h, if_neg h2, if_neg (by omega)]
theorem pS_0 {p : Nat → Int32} : pS p 0 = p := by funext j; simp [pS]
def pC (q : Nat → Int32) (c : Nat) (row : Nat → Int32) (i : Nat) : Nat → Int32 := fun j => if 1080 * c ≤ j ∧ j < 1080 * c + i then row (j - 1080 * c) else q j
theorem pC_step {q row : Nat → Int32} {c i : Nat} : upd (pC q c row i) (1080 * c + i) (row i) = pC q c row (i + 1) := by
  funext j
  unfold upd pC
  by_cases h : j = 1080 * c + i
  · subst h
    rw [if_pos rfl, if_pos (by omega)]
    congr 1
    omega
  · by_cases h2 : 1080 * c ≤ j ∧ j < 1080 * c + i
    · rw [if_neg h, if_pos h2, if_pos (by omega)]
    · rw [if_neg h, if_neg h2, if_neg (by omega)]
theorem pC_0 {q row : Nat → Int32} {c : Nat} : pC q c row 0 = q := by
  funext j
  unfold pC
  rw [if_neg (by omega)]
/-- the history's row behind one more state -/
def kpP (p : Nat → Int32) (c : Nat) (row : Nat → Int32) : Nat → Int32 := if c = 4 then pC (pS p 3240) 3 row 1080 else pC p c row 1080
def kpC (c : Nat) : Nat := if c = 4 then 4 else c + 1
theorem kpC_le {c : Nat} (h : c ≤ 4) : kpC c ≤ 4 := by unfold kpC; split <;> omega

set_option maxRecDepth 100000 in
set_option maxHeartbeats 4000000 in
theorem lp2_X6_keeps {E : jx_E} {l : Launch} {n : Nat} {kd : jx_K} {R : jx_R} {I0 : jx_I} {m : Nat} {F v a p o t cm : Nat → Int32} {q : Nat → Int32} (hs : sMd kd R m) {r c : Nat} {row : Nat → Int32} (hr : kd r = (7, 1080)) (hrow : ∀ F' q, mI I0 m F' v a q o t cm r = row) (hc : F 3 = nI c) (hc4 : c ≤ 3) : ∀ (k i : Nat), i ≤ 1080 → k + i = 1081 → jx_J E l cX6_keeps 3 none RX6 false (jx_rm 0) 0 0 (jx_Q0 n kd R (jx_Pv (fun I' => I' = mI I0 m (upd F 3 (nI (c + 1))) v a (pC q c row 1080) o t cm))) 0 0 n kd R (mI I0 m F v a (pC q c row i) o t cm) 51 [some (.ref m), some (.ref r), some (.int (nI i))] [] := by
  obtain ⟨K0, K1, K2, K3, K4, K5, K6, R0, R1, R2, R4, R6, R10⟩ := id hs
  intro k
  induction k with
  | zero => intro i h1 h2; omega
  | succ k ih =>
    intro i h1 h2
    refine j_iload_n (pc' := 52) dX6_keeps_51 rfl rfl ?_
    refine j_sipush (pc' := 55) (v := nI 1080) dX6_keeps_52 rfl rfl ?_
    first | refine j_icmp_geN' (tgt := 82) (pc' := 58) (by with_reducible rfl) (by with_reducible rfl) (by omega) (by omega) dX6_keeps_55 rfl (by decide) (fun c55 => ?_) (fun c55 => ?_) | refine j_icmp_ge (tgt := 82) (pc' := 58) dX6_keeps_55 rfl (by decide) (fun c55 => ?_) (fun c55 => ?_)
    ·
      refine j_aload_n (pc' := 83) dX6_keeps_82 rfl rfl ?_
      refine j_dup (pc' := 84) dX6_keeps_83 rfl rfl ?_
      refine j_getIv (pc' := 87) f_X6_28 (by assumption) (by first | (simp (disch := omega) only [jx_upS, jx_upK, jx_upA, mI_0, mI_1, mI_2, mI_3, mI_4, mI_5, mI_6, pk_us, pk_un, hrow, hc]; rfl) | rfl) dX6_keeps_84 rfl ?_
      refine j_iconst (pc' := 88) (v := nI 1) dX6_keeps_87 rfl rfl ?_
      first | refine j_iaddN' (pc' := 89) (by with_reducible rfl) (by with_reducible rfl) dX6_keeps_88 rfl ?_ | refine j_iadd (pc' := 89) dX6_keeps_88 rfl ?_
      refine j_putI (pc' := 92) f_X6_28 (by assumption) rfl rfl dX6_keeps_89 rfl ?_
      refine j_eqI mW_0 ?_
      refine j_retv dX6_keeps_92 rfl ?_
      have : i = 1080 := by omega
      subst this
      rfl
    ·
      refine j_aload_n (pc' := 59) dX6_keeps_58 rfl rfl ?_
      refine j_getR (pc' := 62) f_X6_16 (by assumption) (by assumption) dX6_keeps_59 rfl ?_
      refine j_sipush (pc' := 65) (v := nI 1080) dX6_keeps_62 rfl rfl ?_
      refine j_aload_n (pc' := 66) dX6_keeps_65 rfl rfl ?_
      refine j_getIv (pc' := 69) f_X6_28 (by assumption) (by first | (simp (disch := omega) only [jx_upS, jx_upK, jx_upA, mI_0, mI_1, mI_2, mI_3, mI_4, mI_5, mI_6, pk_us, pk_un, hrow, hc]; rfl) | rfl) dX6_keeps_66 rfl ?_
      first | refine j_imulN' (pc' := 70) (by with_reducible rfl) (by with_reducible rfl) dX6_keeps_69 rfl ?_ | refine j_imul (pc' := 70) dX6_keeps_69 rfl ?_
      refine j_iload_n (pc' := 71) dX6_keeps_70 rfl rfl ?_
      first | refine j_iaddN' (pc' := 72) (by with_reducible rfl) (by with_reducible rfl) dX6_keeps_71 rfl ?_ | refine j_iadd (pc' := 72) dX6_keeps_71 rfl ?_
      refine j_aload_n (pc' := 73) dX6_keeps_72 rfl rfl ?_
      refine j_iload_n (pc' := 74) dX6_keeps_73 rfl rfl ?_
      refine j_ialdv (pc' := 75) (by assumption) rfl (by omega) (by omega) (by first | (simp (disch := omega) only [jx_upS, jx_upK, jx_upA, mI_0, mI_1, mI_2, mI_3, mI_4, mI_5, mI_6, pk_us, pk_un, hrow, hc]; rfl) | rfl) dX6_keeps_74 rfl ?_
      refine j_iast (pc' := 76) (by assumption) rfl (by omega) (by omega) dX6_keeps_75 rfl ?_
      first | refine j_eqI mW_1 ?_ | refine j_eqI mW_2 ?_ | refine j_eqI mW_3 ?_ | refine j_eqI mW_4 ?_ | refine j_eqI mW_5 ?_ | refine j_eqI mW_6 ?_
      rw [pC_step]
      first | refine j_iincN (pc' := 79) (lv' := [_, _, _]) dX6_keeps_76 rfl rfl (by decide) rfl ?_ | refine j_iinc (pc' := 79) (lv' := [_, _, _]) dX6_keeps_76 rfl rfl rfl (by decide) rfl ?_
      refine j_goto (tgt := 51) dX6_keeps_79 (by decide) ?_
      exact ih (i + 1) (by omega) (by omega)
set_option maxRecDepth 100000 in
set_option maxHeartbeats 4000000 in
theorem lp1_X6_keeps {E : jx_E} {l : Launch} {n : Nat} {kd : jx_K} {R : jx_R} {I0 : jx_I} {m : Nat} {F v a p o t cm : Nat → Int32} (hs : sMd kd R m) {r : Nat} {row : Nat → Int32} (hr : kd r = (7, 1080)) (hrow : ∀ F' q, mI I0 m F' v a q o t cm r = row) (hc : F 3 = nI 4) : ∀ (k i : Nat), i ≤ 3240 → k + i = 3241 → jx_J E l cX6_keeps 3 none RX6 false (jx_rm 0) 0 0 (jx_Q0 n kd R (jx_Pv (fun I' => I' = mI I0 m (upd F 3 (nI 4)) v a (pC (pS p 3240) 3 row 1080) o t cm))) 0 0 n kd R (mI I0 m F v a (pS p i) o t cm) 10 [some (.ref m), some (.ref r), some (.int (nI i))] [] := by
  obtain ⟨K0, K1, K2, K3, K4, K5, K6, R0, R1, R2, R4, R6, R10⟩ := id hs
  intro k
  induction k with
  | zero => intro i h1 h2; omega
  | succ k ih =>
    intro i h1 h2
    refine j_iload_n (pc' := 11) dX6_keeps_10 rfl rfl ?_
    refine j_sipush (pc' := 14) (v := nI 3240) dX6_keeps_11 rfl rfl ?_
    first | refine j_icmp_geN' (tgt := 39) (pc' := 17) (by with_reducible rfl) (by with_reducible rfl) (by omega) (by omega) dX6_keeps_14 rfl (by decide) (fun c14 => ?_) (fun c14 => ?_) | refine j_icmp_ge (tgt := 39) (pc' := 17) dX6_keeps_14 rfl (by decide) (fun c14 => ?_) (fun c14 => ?_)
    ·
      refine j_aload_n (pc' := 40) dX6_keeps_39 rfl rfl ?_
      refine j_dup (pc' := 41) dX6_keeps_40 rfl rfl ?_
      refine j_getIv (pc' := 44) f_X6_28 (by assumption) (by first | (simp (disch := omega) only [jx_upS, jx_upK, jx_upA, mI_0, mI_1, mI_2, mI_3, mI_4, mI_5, mI_6, pk_us, pk_un, hrow, hc, pS_ge]; rfl) | rfl) dX6_keeps_41 rfl ?_
      refine j_iconst (pc' := 45) (v := nI 1) dX6_keeps_44 rfl rfl ?_
      first | refine j_isubN' (pc' := 46) (by with_reducible rfl) (by with_reducible rfl) (by omega) dX6_keeps_45 rfl ?_ | refine j_isub (pc' := 46) dX6_keeps_45 rfl ?_
      refine j_putI (pc' := 49) f_X6_28 (by assumption) rfl rfl dX6_keeps_46 rfl ?_
      refine j_eqI mW_0 ?_
      refine j_iconst (pc' := 50) (v := nI 0) dX6_keeps_49 rfl rfl ?_
      refine j_istore_n (pc' := 51) (lv' := [_, _, _]) dX6_keeps_50 rfl (by decide) rfl ?_
      have : i = 3240 := by omega
      subst this
      have h := lp2_X6_keeps (E := E) (l := l) (n := n) (p := p) (q := pS p 3240) (F := upd F 3 (nI 3)) hs hr hrow (c := 3) pk_us (by omega) 1081 0 (by omega) (by omega)
      rw [pC_0, upd_upd] at h
      exact h
    ·
      refine j_aload_n (pc' := 18) dX6_keeps_17 rfl rfl ?_
      refine j_getR (pc' := 21) f_X6_16 (by assumption) (by assumption) dX6_keeps_18 rfl ?_
      refine j_iload_n (pc' := 22) dX6_keeps_21 rfl rfl ?_
      refine j_aload_n (pc' := 23) dX6_keeps_22 rfl rfl ?_
      refine j_getR (pc' := 26) f_X6_16 (by assumption) (by assumption) dX6_keeps_23 rfl ?_
      refine j_iload_n (pc' := 27) dX6_keeps_26 rfl rfl ?_
      refine j_sipush (pc' := 30) (v := nI 1080) dX6_keeps_27 rfl rfl ?_
      first | refine j_iaddN' (pc' := 31) (by with_reducible rfl) (by with_reducible rfl) dX6_keeps_30 rfl ?_ | refine j_iadd (pc' := 31) dX6_keeps_30 rfl ?_
      refine j_ialdv (pc' := 32) (by assumption) rfl (by omega) (by omega) (by first | (simp (disch := omega) only [jx_upS, jx_upK, jx_upA, mI_0, mI_1, mI_2, mI_3, mI_4, mI_5, mI_6, pk_us, pk_un, hrow, hc, pS_ge]; rfl) | rfl) dX6_keeps_31 rfl ?_
      refine j_iast (pc' := 33) (by assumption) rfl (by omega) (by omega) dX6_keeps_32 rfl ?_
      first | refine j_eqI mW_1 ?_ | refine j_eqI mW_2 ?_ | refine j_eqI mW_3 ?_ | refine j_eqI mW_4 ?_ | refine j_eqI mW_5 ?_ | refine j_eqI mW_6 ?_
      rw [pS_step]
      first | refine j_iincN (pc' := 36) (lv' := [_, _, _]) dX6_keeps_33 rfl rfl (by decide) rfl ?_ | refine j_iinc (pc' := 36) (lv' := [_, _, _]) dX6_keeps_33 rfl rfl rfl (by decide) rfl ?_
      refine j_goto (tgt := 10) dX6_keeps_36 (by decide) ?_
      exact ih (i + 1) (by omega) (by omega)
set_option maxRecDepth 100000 in
set_option maxHeartbeats 4000000 in
theorem c_X6_keeps {E : jx_E} {l : Launch} {n : Nat} {kd : jx_K} {R : jx_R} {I0 : jx_I} {m : Nat} {F v a p o t cm : Nat → Int32} (hs : sMd kd R m) {r c : Nat} {row : Nat → Int32} (hr : kd r = (7, 1080)) (hrow : ∀ F' q, mI I0 m F' v a q o t cm r = row) (hc : F 3 = nI c) (hc4 : c ≤ 4) : jx_Cv E l yX6_keeps cX6_keeps 3 none 0 n kd R (mI I0 m F v a p o t cm) [.ref m, .ref r] (fun I' => I' = mI I0 m (upd F 3 (nI (kpC c))) v a (kpP p c row) o t cm) := by
  obtain ⟨K0, K1, K2, K3, K4, K5, K6, R0, R1, R2, R4, R6, R10⟩ := id hs
  refine jx_C0.ofJ RX6 [some (.ref m), some (.ref r), none] (by decide) rfl rfl (Nat.le_of_ble_eq_true rfl) rfl ?_
  refine j_aload_n (pc' := 1) dX6_keeps_0 rfl rfl ?_
  refine j_getIv (pc' := 4) f_X6_28 (by assumption) (by first | (simp (disch := omega) only [jx_upS, jx_upK, jx_upA, mI_0, mI_1, mI_2, mI_3, mI_4, mI_5, mI_6, pk_us, pk_un, hrow, hc]; rfl) | rfl) dX6_keeps_1 rfl ?_
  refine j_iconst (pc' := 5) (v := nI 4) dX6_keeps_4 rfl rfl ?_
  first | refine j_icmp_neN' (tgt := 49) (pc' := 8) (by with_reducible rfl) (by with_reducible rfl) (by omega) (by omega) dX6_keeps_5 rfl (by decide) (fun c5 => ?_) (fun c5 => ?_) | refine j_icmp_ne (tgt := 49) (pc' := 8) dX6_keeps_5 rfl (by decide) (fun c5 => ?_) (fun c5 => ?_)
  ·
    refine j_iconst (pc' := 50) (v := nI 0) dX6_keeps_49 rfl rfl ?_
    refine j_istore_n (pc' := 51) (lv' := [_, _, _]) dX6_keeps_50 rfl (by decide) rfl ?_
    have h := lp2_X6_keeps (E := E) (l := l) (n := n) (p := p) (q := p) hs hr hrow hc (by omega) 1081 0 (by omega) (by omega)
    rw [pC_0] at h
    rw [show kpC c = c + 1 from if_neg c5, show kpP p c row = pC p c row 1080 from if_neg c5]
    exact h
  ·
    refine j_iconst (pc' := 9) (v := nI 0) dX6_keeps_8 rfl rfl ?_
    refine j_istore_n (pc' := 10) (lv' := [_, _, _]) dX6_keeps_9 rfl (by decide) rfl ?_
    subst c5
    rw [show kpC 4 = 4 from rfl, show kpP p 4 row = pC (pS p 3240) 3 row 1080 from rfl]
    have h := lp1_X6_keeps (E := E) (l := l) (n := n) (p := p) hs hr hrow hc 3241 0 (by omega) (by omega)
    rw [pS_0] at h
    exact h
def isE (x : Int32) : Bool := decide (x = -20001 ∨ x = -20002)
theorem isE_t {x : Int32} (h : x = -20001 ∨ x = -20002) : isE x = true := decide_eq_true h
theorem isE_n {x : Int32} (h1 : ¬ x = -20001) (h2 : ¬ x = -20002) : ¬ isE x = true := fun z => (of_decide_eq_true z).elim h1 h2

set_option maxRecDepth 100000 in
set_option maxHeartbeats 4000000 in
theorem c_X6_acts {E : jx_E} {l : Launch} {n : Nat} {kd : jx_K} {R : jx_R} {I0 : jx_I} {m : Nat} {F v a p o t c : Nat → Int32} {q : Nat} {x : Int32} (hs : sMd kd R m) (hc : F 3 = nI q) (hc4 : q ≤ 4) : jx_Ci E l yX6_acts cX6_acts 2 (some .int) 1 n kd R (mI I0 m F v a p o t c) [.ref m, .int x] (fun r I' => r = x ∧ I' = if isE x = true then mI I0 m F v a p o t c else mI I0 m (upd F 3 (nI (kpC q))) v a (kpP p q a) o t c) := by
  obtain ⟨K0, K1, K2, K3, K4, K5, K6, R0, R1, R2, R4, R6, R10⟩ := id hs
  refine jx_C0.ofJ RX6 [some (.ref m), some (.int x)] (by decide) rfl rfl (Nat.le_of_ble_eq_true rfl) rfl ?_
  refine j_iload_n (pc' := 1) dX6_acts_0 rfl rfl ?_
  refine j_sipush (pc' := 4) (v := -20001) dX6_acts_1 rfl rfl ?_
  first | refine j_icmp_eqN' (tgt := 22) (pc' := 7) (by with_reducible rfl) (by with_reducible rfl) (by omega) (by omega) dX6_acts_4 rfl (by decide) (fun c4 => ?_) (fun c4 => ?_) | refine j_icmp_eq (tgt := 22) (pc' := 7) dX6_acts_4 rfl (by decide) (fun c4 => ?_) (fun c4 => ?_)
  ·
    refine j_iload_n (pc' := 23) dX6_acts_22 rfl rfl ?_
    refine j_reti dX6_acts_23 rfl (by first | rfl | exact bi_n _) ?_
    refine ⟨rfl, ?_⟩
    first | (rw [if_pos (isE_t (by first | exact Or.inl (by assumption) | exact Or.inr (by assumption)))]; done) | (rw [if_neg (isE_n (by assumption) (by assumption))]; done)
  ·
    refine j_iload_n (pc' := 8) dX6_acts_7 rfl rfl ?_
    refine j_sipush (pc' := 11) (v := -20002) dX6_acts_8 rfl rfl ?_
    first | refine j_icmp_eqN' (tgt := 22) (pc' := 14) (by with_reducible rfl) (by with_reducible rfl) (by omega) (by omega) dX6_acts_11 rfl (by decide) (fun c11 => ?_) (fun c11 => ?_) | refine j_icmp_eq (tgt := 22) (pc' := 14) dX6_acts_11 rfl (by decide) (fun c11 => ?_) (fun c11 => ?_)
    ·
      refine j_iload_n (pc' := 23) dX6_acts_22 rfl rfl ?_
      refine j_reti dX6_acts_23 rfl (by first | rfl | exact bi_n _) ?_
      refine ⟨rfl, ?_⟩
      first | (rw [if_pos (isE_t (by first | exact Or.inl (by assumption) | exact Or.inr (by assumption)))]; done) | (rw [if_neg (isE_n (by assumption) (by assumption))]; done)
    ·
      refine j_aload_n (pc' := 15) dX6_acts_14 rfl rfl ?_
      refine j_aload_n (pc' := 16) dX6_acts_15 rfl rfl ?_
      refine j_getR (pc' := 19) f_X6_13 (by assumption) (by assumption) dX6_acts_16 rfl ?_
      refine j_cVv (pc' := 22) m_X6_40 (c_X6_keeps (row := a) hs K2 (fun _ _ => mI_2) hc hc4) (by assumption) (by decide) rfl rfl rfl ⟨Nat.le_of_ble_eq_true rfl, Nat.le_of_ble_eq_true rfl⟩ ⟨Nat.zero_le _, Nat.zero_le _⟩ (Nat.le_of_ble_eq_true rfl) dX6_acts_19 rfl (fun I1 hq => ?_)
      subst hq
      refine j_iload_n (pc' := 23) dX6_acts_22 rfl rfl ?_
      refine j_reti dX6_acts_23 rfl (by first | rfl | exact bi_n _) ?_
      refine ⟨rfl, ?_⟩
      first | (rw [if_pos (isE_t (by first | exact Or.inl (by assumption) | exact Or.inr (by assumption)))]; done) | (rw [if_neg (isE_n (by assumption) (by assumption))]; done)

