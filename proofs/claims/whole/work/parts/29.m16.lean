set_option maxRecDepth 100000 in
set_option maxHeartbeats 4000000 in
theorem c_X6_type {E : jx_E} {l : Launch} {n : Nat} {kd : jx_K} {R : jx_R} {I0 : jx_I} {m : Nat} {F v a p o t c : Nat → Int32} {L : Nat} {x : Int32} (hs : sMd kd R m) (hL : F 7 = nI L) (hL8 : L ≤ 80) : jx_Ci E l yX6_type cX6_type 2 (some .int) 1 n kd R (mI I0 m F v a p o t c) [.ref m, .int x] (fun r I' => r = (if decide (nI 32 ≤ x ∧ x ≤ nI 126) = true then if L = 80 then -20003 else nI (L + 1) else -20001) ∧ I' = if decide (nI 32 ≤ x ∧ x ≤ nI 126) = true ∧ ¬ L = 80 then mI I0 m (upd F 7 (nI (L + 1))) v a p o (upd t L x) c else mI I0 m F v a p o t c) := by
  obtain ⟨K0, K1, K2, K3, K4, K5, K6, R0, R1, R2, R4, R6, R10⟩ := id hs
  refine jx_C0.ofJ RX6 [some (.ref m), some (.int x)] (by decide) rfl rfl (Nat.le_of_ble_eq_true rfl) rfl ?_
  refine j_iload_n (pc' := 1) dX6_type_0 rfl rfl ?_
  refine j_bipush (pc' := 3) (v := nI 32) dX6_type_1 rfl rfl ?_
  refine j_bipush (pc' := 5) (v := nI 126) dX6_type_3 rfl rfl ?_
  refine j_cSi (pc' := 8) m_X6_32 (c_X6_in E l n kd R _ _ _ _) rfl rfl ⟨Nat.le_of_ble_eq_true rfl, Nat.le_of_ble_eq_true rfl⟩ ⟨Nat.zero_le _, Nat.zero_le _⟩ (Nat.le_of_ble_eq_true rfl) dX6_type_5 rfl (fun x1 I1 hq => ?_)
  obtain ⟨rfl, rfl⟩ := hq
  first | refine j_if_neB' (tgt := 15) (pc' := 11) (by with_reducible rfl) dX6_type_8 rfl (by decide) (fun c8 => ?_) (fun c8 => ?_) | refine j_if_neN' (tgt := 15) (pc' := 11) (by with_reducible rfl) (by omega) dX6_type_8 rfl (by decide) (fun c8 => ?_) (fun c8 => ?_) | refine j_if_ne (tgt := 15) (pc' := 11) dX6_type_8 rfl (by decide) (fun c8 => ?_) (fun c8 => ?_)
  ·
    refine j_aload_n (pc' := 16) dX6_type_15 rfl rfl ?_
    refine j_getIv (pc' := 19) f_X6_137 (by assumption) (by first | (simp (disch := omega) only [jx_upS, jx_upK, jx_upA, mI_0, mI_1, mI_2, mI_3, mI_4, mI_5, mI_6, pk_us, pk_un, hL]; rfl) | rfl) dX6_type_16 rfl ?_
    refine j_bipush (pc' := 21) (v := nI 80) dX6_type_19 rfl rfl ?_
    first | refine j_icmp_neN' (tgt := 28) (pc' := 24) (by with_reducible rfl) (by with_reducible rfl) (by omega) (by omega) dX6_type_21 rfl (by decide) (fun c21 => ?_) (fun c21 => ?_) | refine j_icmp_ne (tgt := 28) (pc' := 24) dX6_type_21 rfl (by decide) (fun c21 => ?_) (fun c21 => ?_)
    ·
      refine j_aload_n (pc' := 29) dX6_type_28 rfl rfl ?_
      refine j_getR (pc' := 32) f_X6_22 (by assumption) (by assumption) dX6_type_29 rfl ?_
      refine j_aload_n (pc' := 33) dX6_type_32 rfl rfl ?_
      refine j_getIv (pc' := 36) f_X6_137 (by assumption) (by first | (simp (disch := omega) only [jx_upS, jx_upK, jx_upA, mI_0, mI_1, mI_2, mI_3, mI_4, mI_5, mI_6, pk_us, pk_un, hL]; rfl) | rfl) dX6_type_33 rfl ?_
      refine j_iload_n (pc' := 37) dX6_type_36 rfl rfl ?_
      refine j_iast (pc' := 38) (by assumption) rfl (by omega) (by omega) dX6_type_37 rfl ?_
      first | refine j_eqI mW_1 ?_ | refine j_eqI mW_2 ?_ | refine j_eqI mW_3 ?_ | refine j_eqI mW_4 ?_ | refine j_eqI mW_5 ?_ | refine j_eqI mW_6 ?_
      refine j_aload_n (pc' := 39) dX6_type_38 rfl rfl ?_
      refine j_dup (pc' := 40) dX6_type_39 rfl rfl ?_
      refine j_getIv (pc' := 43) f_X6_137 (by assumption) (by first | (simp (disch := omega) only [jx_upS, jx_upK, jx_upA, mI_0, mI_1, mI_2, mI_3, mI_4, mI_5, mI_6, pk_us, pk_un, hL]; rfl) | rfl) dX6_type_40 rfl ?_
      refine j_iconst (pc' := 44) (v := nI 1) dX6_type_43 rfl rfl ?_
      first | refine j_iaddN' (pc' := 45) (by with_reducible rfl) (by with_reducible rfl) dX6_type_44 rfl ?_ | refine j_iadd (pc' := 45) dX6_type_44 rfl ?_
      refine j_putI (pc' := 48) f_X6_137 (by assumption) rfl rfl dX6_type_45 rfl ?_
      refine j_eqI mW_0 ?_
      refine j_aload_n (pc' := 49) dX6_type_48 rfl rfl ?_
      refine j_getIv (pc' := 52) f_X6_137 (by assumption) (by first | (simp (disch := omega) only [jx_upS, jx_upK, jx_upA, mI_0, mI_1, mI_2, mI_3, mI_4, mI_5, mI_6, pk_us, pk_un, hL]; rfl) | rfl) dX6_type_49 rfl ?_
      refine j_reti dX6_type_52 rfl (by first | rfl | exact bi_n _) ?_
      constructor <;> simp (disch := omega) only [nI_clamp, c8, c21, reduceIte, Bool.false_eq_true, and_true, and_false, true_and, false_and, not_true_eq_false, not_false_eq_true, decide_true, decide_false, eq_self, or_true, or_false, true_or, false_or, ne_eq]
    ·
      refine j_sipush (pc' := 27) (v := -20003) dX6_type_24 rfl rfl ?_
      refine j_reti dX6_type_27 rfl (by first | rfl | exact bi_n _) ?_
      constructor <;> simp (disch := omega) only [nI_clamp, c8, c21, reduceIte, Bool.false_eq_true, and_true, and_false, true_and, false_and, not_true_eq_false, not_false_eq_true, decide_true, decide_false, eq_self, or_true, or_false, true_or, false_or, ne_eq]
  ·
    refine j_sipush (pc' := 14) (v := -20001) dX6_type_11 rfl rfl ?_
    refine j_reti dX6_type_14 rfl (by first | rfl | exact bi_n _) ?_
    constructor <;> simp (disch := omega) only [nI_clamp, c8, reduceIte, Bool.false_eq_true, and_true, and_false, true_and, false_and, not_true_eq_false, not_false_eq_true, decide_true, decide_false, eq_self, or_true, or_false, true_or, false_or, ne_eq]

set_option maxRecDepth 100000 in
set_option maxHeartbeats 4000000 in
theorem c_X6_clear {E : jx_E} {l : Launch} {n : Nat} {kd : jx_K} {R : jx_R} {I0 : jx_I} {m : Nat} {F v a p o t c : Nat → Int32}  (hs : sMd kd R m)  : jx_Ci E l yX6_clear cX6_clear 2 (some .int) 0 n kd R (mI I0 m F v a p o t c) [.ref m] (fun r I' => r = F 7 ∧ I' = mI I0 m (upd F 7 (nI 0)) v a p o t c) := by
  obtain ⟨K0, K1, K2, K3, K4, K5, K6, R0, R1, R2, R4, R6, R10⟩ := id hs
  refine jx_C0.ofJ RX6 [some (.ref m), none] (by decide) rfl rfl (Nat.le_of_ble_eq_true rfl) rfl ?_
  refine j_aload_n (pc' := 1) dX6_clear_0 rfl rfl ?_
  refine j_getIv (pc' := 4) f_X6_137 (by assumption) (by first | (simp (disch := omega) only [jx_upS, jx_upK, jx_upA, mI_0, mI_1, mI_2, mI_3, mI_4, mI_5, mI_6, pk_us, pk_un]; rfl) | rfl) dX6_clear_1 rfl ?_
  refine j_istore_n (pc' := 5) (lv' := [_, _]) dX6_clear_4 rfl (by decide) rfl ?_
  refine j_aload_n (pc' := 6) dX6_clear_5 rfl rfl ?_
  refine j_iconst (pc' := 7) (v := nI 0) dX6_clear_6 rfl rfl ?_
  refine j_putI (pc' := 10) f_X6_137 (by assumption) rfl rfl dX6_clear_7 rfl ?_
  refine j_eqI mW_0 ?_
  refine j_iload_n (pc' := 11) dX6_clear_10 rfl rfl ?_
  refine j_reti dX6_clear_11 rfl (by first | rfl | exact bi_n _) ?_
  exact ⟨rfl, rfl⟩

def unV (p v : Nat → Int32) (q i : Nat) : Nat → Int32 := fun j => if j < i then p (1080 * q + j) else v j
theorem unV_step {p v : Nat → Int32} {q i : Nat} : upd (unV p v q i) i (p (1080 * q + i)) = unV p v q (i + 1) := by
  funext j
  unfold upd unV
  by_cases h : j = i
  · subst h; simp
  · by_cases h2 : j < i
    · rw [if_neg h, if_pos h2, if_pos (by omega)]
    · rw [if_neg h, if_neg h2, if_neg (by omega)]
theorem unV_0 {p v : Nat → Int32} {q : Nat} : unV p v q 0 = v := by funext j; simp [unV]
set_option maxRecDepth 100000 in
set_option maxHeartbeats 4000000 in
theorem lp_X6_undo {E : jx_E} {l : Launch} {n : Nat} {kd : jx_K} {R : jx_R} {I0 : jx_I} {m : Nat} {F v a p o t c : Nat → Int32} {q : Nat} (hs : sMd kd R m) (hc : F 3 = nI q) (hc3 : q ≤ 3) : ∀ (z i : Nat), i ≤ 1080 → z + i = 1081 → jx_J E l cX6_undo 2 (some .int) RX6 false (jx_rm 0) 0 0 (jx_Q0 n kd R (jx_Pi (fun r I' => r = nI q ∧ I' = mI I0 m F (unV p v q 1080) a p o t c))) 0 0 n kd R (mI I0 m F (unV p v q i) a p o t c) 23 [some (.ref m), some (.int (nI i))] [] := by
  obtain ⟨K0, K1, K2, K3, K4, K5, K6, R0, R1, R2, R4, R6, R10⟩ := id hs
  intro z
  induction z with
  | zero => intro i hi hz; omega
  | succ z ih =>
    intro i hi hz
    refine j_iload_n (pc' := 24) dX6_undo_23 rfl rfl ?_
    refine j_sipush (pc' := 27) (v := nI 1080) dX6_undo_24 rfl rfl ?_
    first | refine j_icmp_geN' (tgt := 57) (pc' := 30) (by with_reducible rfl) (by with_reducible rfl) (by omega) (by omega) dX6_undo_27 rfl (by decide) (fun c27 => ?_) (fun c27 => ?_) | refine j_icmp_ge (tgt := 57) (pc' := 30) dX6_undo_27 rfl (by decide) (fun c27 => ?_) (fun c27 => ?_)
    ·
      refine j_aload_n (pc' := 58) dX6_undo_57 rfl rfl ?_
      refine j_getIv (pc' := 61) f_X6_28 (by assumption) (by first | (simp (disch := omega) only [jx_upS, jx_upK, jx_upA, mI_0, mI_1, mI_2, mI_3, mI_4, mI_5, mI_6, pk_us, pk_un, hc]; rfl) | rfl) dX6_undo_58 rfl ?_
      refine j_reti dX6_undo_61 rfl (by first | rfl | exact bi_n _) ?_
      have : i = 1080 := by omega
      subst this
      exact ⟨rfl, rfl⟩
    ·
      refine j_aload_n (pc' := 31) dX6_undo_30 rfl rfl ?_
      refine j_getR (pc' := 34) f_X6_7 (by assumption) (by assumption) dX6_undo_31 rfl ?_
      refine j_iload_n (pc' := 35) dX6_undo_34 rfl rfl ?_
      refine j_aload_n (pc' := 36) dX6_undo_35 rfl rfl ?_
      refine j_getR (pc' := 39) f_X6_16 (by assumption) (by assumption) dX6_undo_36 rfl ?_
      refine j_sipush (pc' := 42) (v := nI 1080) dX6_undo_39 rfl rfl ?_
      refine j_aload_n (pc' := 43) dX6_undo_42 rfl rfl ?_
      refine j_getIv (pc' := 46) f_X6_28 (by assumption) (by first | (simp (disch := omega) only [jx_upS, jx_upK, jx_upA, mI_0, mI_1, mI_2, mI_3, mI_4, mI_5, mI_6, pk_us, pk_un, hc]; rfl) | rfl) dX6_undo_43 rfl ?_
      first | refine j_imulN' (pc' := 47) (by with_reducible rfl) (by with_reducible rfl) dX6_undo_46 rfl ?_ | refine j_imul (pc' := 47) dX6_undo_46 rfl ?_
      refine j_iload_n (pc' := 48) dX6_undo_47 rfl rfl ?_
      first | refine j_iaddN' (pc' := 49) (by with_reducible rfl) (by with_reducible rfl) dX6_undo_48 rfl ?_ | refine j_iadd (pc' := 49) dX6_undo_48 rfl ?_
      refine j_ialdv (pc' := 50) (by assumption) rfl (by omega) (by omega) (by first | (simp (disch := omega) only [jx_upS, jx_upK, jx_upA, mI_0, mI_1, mI_2, mI_3, mI_4, mI_5, mI_6, pk_us, pk_un, hc]; rfl) | rfl) dX6_undo_49 rfl ?_
      refine j_iast (pc' := 51) (by assumption) rfl (by omega) (by omega) dX6_undo_50 rfl ?_
      first | refine j_eqI mW_1 ?_ | refine j_eqI mW_2 ?_ | refine j_eqI mW_3 ?_ | refine j_eqI mW_4 ?_ | refine j_eqI mW_5 ?_ | refine j_eqI mW_6 ?_
      rw [unV_step]
      first | refine j_iincN (pc' := 54) (lv' := [_, _]) dX6_undo_51 rfl rfl (by decide) rfl ?_ | refine j_iinc (pc' := 54) (lv' := [_, _]) dX6_undo_51 rfl rfl rfl (by decide) rfl ?_
      refine j_goto (tgt := 23) dX6_undo_54 (by decide) ?_
      exact ih (i + 1) (by omega) (by omega)
set_option maxRecDepth 100000 in
set_option maxHeartbeats 4000000 in
theorem c_X6_undo {E : jx_E} {l : Launch} {n : Nat} {kd : jx_K} {R : jx_R} {I0 : jx_I} {m : Nat} {F v a p o t c : Nat → Int32} {q : Nat} (hs : sMd kd R m) (hc : F 3 = nI q) (hc4 : q ≤ 4) : jx_Ci E l yX6_undo cX6_undo 2 (some .int) 0 n kd R (mI I0 m F v a p o t c) [.ref m] (fun r I' => r = (if q = 0 then -20009 else nI (q - 1)) ∧ I' = if q = 0 then mI I0 m F v a p o t c else mI I0 m (upd F 3 (nI (q - 1))) (unV p v (q - 1) 1080) a p o t c) := by
  obtain ⟨K0, K1, K2, K3, K4, K5, K6, R0, R1, R2, R4, R6, R10⟩ := id hs
  refine jx_C0.ofJ RX6 [some (.ref m), none] (by decide) rfl rfl (Nat.le_of_ble_eq_true rfl) rfl ?_
  refine j_aload_n (pc' := 1) dX6_undo_0 rfl rfl ?_
  refine j_getIv (pc' := 4) f_X6_28 (by assumption) (by first | (simp (disch := omega) only [jx_upS, jx_upK, jx_upA, mI_0, mI_1, mI_2, mI_3, mI_4, mI_5, mI_6, pk_us, pk_un, hc]; rfl) | rfl) dX6_undo_1 rfl ?_
  first | refine j_if_neB' (tgt := 11) (pc' := 7) (by with_reducible rfl) dX6_undo_4 rfl (by decide) (fun c4 => ?_) (fun c4 => ?_) | refine j_if_neN' (tgt := 11) (pc' := 7) (by with_reducible rfl) (by omega) dX6_undo_4 rfl (by decide) (fun c4 => ?_) (fun c4 => ?_) | refine j_if_ne (tgt := 11) (pc' := 7) dX6_undo_4 rfl (by decide) (fun c4 => ?_) (fun c4 => ?_)
  ·
    refine j_aload_n (pc' := 12) dX6_undo_11 rfl rfl ?_
    refine j_dup (pc' := 13) dX6_undo_12 rfl rfl ?_
    refine j_getIv (pc' := 16) f_X6_28 (by assumption) (by first | (simp (disch := omega) only [jx_upS, jx_upK, jx_upA, mI_0, mI_1, mI_2, mI_3, mI_4, mI_5, mI_6, pk_us, pk_un, hc]; rfl) | rfl) dX6_undo_13 rfl ?_
    refine j_iconst (pc' := 17) (v := nI 1) dX6_undo_16 rfl rfl ?_
    first | refine j_isubN' (pc' := 18) (by with_reducible rfl) (by with_reducible rfl) (by omega) dX6_undo_17 rfl ?_ | refine j_isub (pc' := 18) dX6_undo_17 rfl ?_
    refine j_putI (pc' := 21) f_X6_28 (by assumption) rfl rfl dX6_undo_18 rfl ?_
    refine j_eqI mW_0 ?_
    refine j_iconst (pc' := 22) (v := nI 0) dX6_undo_21 rfl rfl ?_
    refine j_istore_n (pc' := 23) (lv' := [_, _]) dX6_undo_22 rfl (by decide) rfl ?_
    have h := lp_X6_undo (E := E) (l := l) (n := n) (I0 := I0) (v := v) (a := a) (p := p) (o := o) (t := t) (c := c) (F := upd F 3 (nI (q - 1))) hs (q := q - 1) pk_us (by omega) 1081 0 (by omega) (by omega)
    rw [unV_0] at h
    rw [if_neg c4, if_neg c4]
    exact h
  ·
    refine j_sipush (pc' := 10) (v := -20009) dX6_undo_7 rfl rfl ?_
    refine j_reti dX6_undo_10 rfl (by first | rfl | exact bi_n _) ?_
    exact ⟨(if_pos c4).symm, (if_pos c4).symm⟩

def sg (t : Nat → Int32) (L A : Nat) : Int32 := if A < L then t A else -1
def tkB (t : Nat → Int32) (L A : Nat) (x : Int32) : Bool := decide (sg t L A = x)
def tkA (t : Nat → Int32) (L A : Nat) (x : Int32) : Nat := if tkB t L A x = true then A + 1 else A + 0
theorem tkA_le {t : Nat → Int32} {L A : Nat} {x : Int32} (h : A ≤ L) (hx : x ≠ -1) : tkA t L A x ≤ L := by
  unfold tkA
  split
  · rename_i hb
    have := of_decide_eq_true hb
    unfold sg at this
    split at this
    · omega
    · exact absurd this.symm hx
  · omega
/-- the signs xs, one behind another: all there, and where it stops -/
def sq (t : Nat → Int32) (L : Nat) : List Int32 → Nat → Bool × Nat
  | [], A => (true, A)
  | x :: xs, A => if tkB t L A x = true then sq t L xs (tkA t L A x) else (false, tkA t L A x)
theorem sq_le {t : Nat → Int32} {L : Nat} : ∀ (xs : List Int32) (A : Nat), A ≤ L → (∀ x ∈ xs, x ≠ -1) → (sq t L xs A).2 ≤ L := by
  intro xs
  induction xs with
  | nil => intro A h _; exact h
  | cons x xs ih =>
    intro A h hx
    rw [sq]
    have h1 := tkA_le (t := t) h (hx x List.mem_cons_self)
    split
    · exact ih _ h1 (fun y hy => hx y (List.mem_cons_of_mem _ hy))
    · exact h1
set_option maxRecDepth 100000 in
set_option maxHeartbeats 4000000 in
theorem c_X6_sign {E : jx_E} {l : Launch} {n : Nat} {kd : jx_K} {R : jx_R} {I0 : jx_I} {m : Nat} {F v a p o t c : Nat → Int32} {L A : Nat} (hs : sMd kd R m) (hL : F 7 = nI L) (hL8 : L ≤ 80) (hA0 : F 8 = nI A) (hA : A ≤ L) : jx_Ci E l yX6_sign cX6_sign 1 (some .int) 0 n kd R (mI I0 m F v a p o t c) [.ref m] (fun r I' => r = sg t L A ∧ I' = mI I0 m F v a p o t c) := by
  obtain ⟨K0, K1, K2, K3, K4, K5, K6, R0, R1, R2, R4, R6, R10⟩ := id hs
  refine jx_C0.ofJ RX6 [some (.ref m)] (by decide) rfl rfl (Nat.le_of_ble_eq_true rfl) rfl ?_
  refine j_aload_n (pc' := 1) dX6_sign_0 rfl rfl ?_
  refine j_getIv (pc' := 4) f_X6_140 (by assumption) (by first | (simp (disch := omega) only [jx_upS, jx_upK, jx_upA, mI_0, mI_1, mI_2, mI_3, mI_4, mI_5, mI_6, pk_us, pk_un, hL, hA0]; rfl) | rfl) dX6_sign_1 rfl ?_
  refine j_aload_n (pc' := 5) dX6_sign_4 rfl rfl ?_
  refine j_getIv (pc' := 8) f_X6_137 (by assumption) (by first | (simp (disch := omega) only [jx_upS, jx_upK, jx_upA, mI_0, mI_1, mI_2, mI_3, mI_4, mI_5, mI_6, pk_us, pk_un, hL, hA0]; rfl) | rfl) dX6_sign_5 rfl ?_
  first | refine j_icmp_geN' (tgt := 23) (pc' := 11) (by with_reducible rfl) (by with_reducible rfl) (by omega) (by omega) dX6_sign_8 rfl (by decide) (fun c8 => ?_) (fun c8 => ?_) | refine j_icmp_ge (tgt := 23) (pc' := 11) dX6_sign_8 rfl (by decide) (fun c8 => ?_) (fun c8 => ?_)
  ·
    refine j_iconst (pc' := 24) (v := -1) dX6_sign_23 rfl rfl ?_
    refine j_reti dX6_sign_24 rfl (by first | rfl | exact bi_n _) ?_
    refine ⟨?_, rfl⟩
    simp (disch := omega) only [sg, if_pos, if_neg]
  ·
    refine j_aload_n (pc' := 12) dX6_sign_11 rfl rfl ?_
    refine j_getR (pc' := 15) f_X6_22 (by assumption) (by assumption) dX6_sign_12 rfl ?_
    refine j_aload_n (pc' := 16) dX6_sign_15 rfl rfl ?_
    refine j_getIv (pc' := 19) f_X6_140 (by assumption) (by first | (simp (disch := omega) only [jx_upS, jx_upK, jx_upA, mI_0, mI_1, mI_2, mI_3, mI_4, mI_5, mI_6, pk_us, pk_un, hL, hA0]; rfl) | rfl) dX6_sign_16 rfl ?_
    refine j_ialdv (pc' := 20) (by assumption) rfl (by omega) (by omega) (by first | (simp (disch := omega) only [jx_upS, jx_upK, jx_upA, mI_0, mI_1, mI_2, mI_3, mI_4, mI_5, mI_6, pk_us, pk_un, hL, hA0]; rfl) | rfl) dX6_sign_19 rfl ?_
    refine j_goto (tgt := 24) dX6_sign_20 (by decide) ?_
    refine j_reti dX6_sign_24 rfl (by first | rfl | exact bi_n _) ?_
    refine ⟨?_, rfl⟩
    simp (disch := omega) only [sg, if_pos, if_neg]

set_option maxRecDepth 100000 in
set_option maxHeartbeats 4000000 in
theorem c_X6_takes {E : jx_E} {l : Launch} {n : Nat} {kd : jx_K} {R : jx_R} {I0 : jx_I} {m : Nat} {F v a p o t c : Nat → Int32} {L A : Nat} {x : Int32} (hs : sMd kd R m) (hL : F 7 = nI L) (hL8 : L ≤ 80) (hA0 : F 8 = nI A) (hA : A ≤ L) : jx_Ci E l yX6_takes cX6_takes 3 (some .boolean) 1 n kd R (mI I0 m F v a p o t c) [.ref m, .int x] (fun r I' => r = bi (tkB t L A x) ∧ I' = mI I0 m (upd F 8 (nI (tkA t L A x))) v a p o t c) := by
  obtain ⟨K0, K1, K2, K3, K4, K5, K6, R0, R1, R2, R4, R6, R10⟩ := id hs
  refine jx_C0.ofJ RX6 [some (.ref m), some (.int x), none] (by decide) rfl rfl (Nat.le_of_ble_eq_true rfl) rfl ?_
  refine j_aload_n (pc' := 1) dX6_takes_0 rfl rfl ?_
  refine j_cVi (pc' := 4) m_X6_143 (c_X6_sign hs hL hL8 hA0 hA) (by assumption) (by decide) rfl rfl rfl ⟨Nat.le_of_ble_eq_true rfl, Nat.le_of_ble_eq_true rfl⟩ ⟨Nat.zero_le _, Nat.zero_le _⟩ (Nat.le_of_ble_eq_true rfl) dX6_takes_1 rfl (fun x1 I1 hq => ?_)
  obtain ⟨rfl, rfl⟩ := hq
  refine j_iload_n (pc' := 5) dX6_takes_4 rfl rfl ?_
  first | refine j_icmp_neN' (tgt := 12) (pc' := 8) (by with_reducible rfl) (by with_reducible rfl) (by omega) (by omega) dX6_takes_5 rfl (by decide) (fun c5 => ?_) (fun c5 => ?_) | refine j_icmp_ne (tgt := 12) (pc' := 8) dX6_takes_5 rfl (by decide) (fun c5 => ?_) (fun c5 => ?_)
  ·
    have hb : tkB t L A x = false := decide_eq_false c5
    refine j_iconst (pc' := 13) (v := nI 0) dX6_takes_12 rfl rfl ?_
    refine j_istore_n (pc' := 14) (lv' := [_, _, _]) dX6_takes_13 rfl (by decide) rfl ?_
    refine j_aload_n (pc' := 15) dX6_takes_14 rfl rfl ?_
    refine j_dup (pc' := 16) dX6_takes_15 rfl rfl ?_
    refine j_getIv (pc' := 19) f_X6_140 (by assumption) (by first | (simp (disch := omega) only [jx_upS, jx_upK, jx_upA, mI_0, mI_1, mI_2, mI_3, mI_4, mI_5, mI_6, pk_us, pk_un, hA0]; rfl) | rfl) dX6_takes_16 rfl ?_
    refine j_iload_n (pc' := 20) dX6_takes_19 rfl rfl ?_
    first | refine j_if_eqB' (tgt := 27) (pc' := 23) (by with_reducible rfl) dX6_takes_20 rfl (by decide) (fun c20 => ?_) (fun c20 => ?_) | refine j_if_eqN' (tgt := 27) (pc' := 23) (by with_reducible rfl) (by omega) dX6_takes_20 rfl (by decide) (fun c20 => ?_) (fun c20 => ?_) | refine j_if_eq (tgt := 27) (pc' := 23) dX6_takes_20 rfl (by decide) (fun c20 => ?_) (fun c20 => ?_)
    ·
      skip
      refine j_iconst (pc' := 28) (v := nI 0) dX6_takes_27 rfl rfl ?_
      first | refine j_iaddN' (pc' := 29) (by with_reducible rfl) (by with_reducible rfl) dX6_takes_28 rfl ?_ | refine j_iadd (pc' := 29) dX6_takes_28 rfl ?_
      refine j_putI (pc' := 32) f_X6_140 (by assumption) rfl rfl dX6_takes_29 rfl ?_
      refine j_eqI mW_0 ?_
      refine j_iload_n (pc' := 33) dX6_takes_32 rfl rfl ?_
      refine j_reti dX6_takes_33 rfl (by first | rfl | exact bi_n _) ?_
      exact ⟨by rw [hb]; rfl, by rw [tkA, hb]; rfl⟩
    ·
      exact absurd rfl c20
  ·
    have hb : tkB t L A x = true := decide_eq_true c5
    refine j_iconst (pc' := 9) (v := nI 1) dX6_takes_8 rfl rfl ?_
    refine j_goto (tgt := 13) dX6_takes_9 (by decide) ?_
    refine j_istore_n (pc' := 14) (lv' := [_, _, _]) dX6_takes_13 rfl (by decide) rfl ?_
    refine j_aload_n (pc' := 15) dX6_takes_14 rfl rfl ?_
    refine j_dup (pc' := 16) dX6_takes_15 rfl rfl ?_
    refine j_getIv (pc' := 19) f_X6_140 (by assumption) (by first | (simp (disch := omega) only [jx_upS, jx_upK, jx_upA, mI_0, mI_1, mI_2, mI_3, mI_4, mI_5, mI_6, pk_us, pk_un, hA0]; rfl) | rfl) dX6_takes_16 rfl ?_
    refine j_iload_n (pc' := 20) dX6_takes_19 rfl rfl ?_
    first | refine j_if_eqB' (tgt := 27) (pc' := 23) (by with_reducible rfl) dX6_takes_20 rfl (by decide) (fun c20 => ?_) (fun c20 => ?_) | refine j_if_eqN' (tgt := 27) (pc' := 23) (by with_reducible rfl) (by omega) dX6_takes_20 rfl (by decide) (fun c20 => ?_) (fun c20 => ?_) | refine j_if_eq (tgt := 27) (pc' := 23) dX6_takes_20 rfl (by decide) (fun c20 => ?_) (fun c20 => ?_)
    ·
      exact absurd c20 (by decide)
    ·
      skip
      refine j_iconst (pc' := 24) (v := nI 1) dX6_takes_23 rfl rfl ?_
      refine j_goto (tgt := 28) dX6_takes_24 (by decide) ?_
      first | refine j_iaddN' (pc' := 29) (by with_reducible rfl) (by with_reducible rfl) dX6_takes_28 rfl ?_ | refine j_iadd (pc' := 29) dX6_takes_28 rfl ?_
      refine j_putI (pc' := 32) f_X6_140 (by assumption) rfl rfl dX6_takes_29 rfl ?_
      refine j_eqI mW_0 ?_
      refine j_iload_n (pc' := 33) dX6_takes_32 rfl rfl ?_
      refine j_reti dX6_takes_33 rfl (by first | rfl | exact bi_n _) ?_
      exact ⟨by rw [hb]; rfl, by rw [tkA, hb]; rfl⟩

set_option maxRecDepth 100000 in
set_option maxHeartbeats 4000000 in
theorem c_X6_three {E : jx_E} {l : Launch} {n : Nat} {kd : jx_K} {R : jx_R} {I0 : jx_I} {m : Nat} {F v a p o t c : Nat → Int32} {L A : Nat} {x y z : Int32} (hs : sMd kd R m) (hL : F 7 = nI L) (hL8 : L ≤ 80) (hA0 : F 8 = nI A) (hA : A ≤ L) (hx : x ≠ -1) (hy : y ≠ -1) (hz : z ≠ -1) : jx_Ci E l yX6_three cX6_three 4 (some .boolean) 2 n kd R (mI I0 m F v a p o t c) [.ref m, .int x, .int y, .int z] (fun r I' => r = bi (sq t L [x, y, z] A).1 ∧ I' = mI I0 m (upd F 8 (nI (sq t L [x, y, z] A).2)) v a p o t c) := by
  obtain ⟨K0, K1, K2, K3, K4, K5, K6, R0, R1, R2, R4, R6, R10⟩ := id hs
  refine jx_C0.ofJ RX6 [some (.ref m), some (.int x), some (.int y), some (.int z)] (by decide) rfl rfl (Nat.le_of_ble_eq_true rfl) rfl ?_
  refine j_aload_n (pc' := 1) dX6_three_0 rfl rfl ?_
  refine j_iload_n (pc' := 2) dX6_three_1 rfl rfl ?_
  refine j_cVi (pc' := 5) m_X6_146 (c_X6_takes hs (by first | exact hL | (simp (disch := omega) only [pk_un]; exact hL)) hL8 (by first | exact hA0 | exact pk_us) (by repeat (first | exact hA | assumption | refine tkA_le ?_ (by first | assumption | decide)))) (by assumption) (by decide) rfl rfl rfl ⟨Nat.le_of_ble_eq_true rfl, Nat.le_of_ble_eq_true rfl⟩ ⟨Nat.zero_le _, Nat.zero_le _⟩ (Nat.le_of_ble_eq_true rfl) dX6_three_2 rfl (fun x1 I1 hq => ?_)
  obtain ⟨rfl, rfl⟩ := hq
  try rw [upd_upd]
  first | refine j_if_eqB' (tgt := 28) (pc' := 8) (by with_reducible rfl) dX6_three_5 rfl (by decide) (fun c5 => ?_) (fun c5 => ?_) | refine j_if_eqN' (tgt := 28) (pc' := 8) (by with_reducible rfl) (by omega) dX6_three_5 rfl (by decide) (fun c5 => ?_) (fun c5 => ?_) | refine j_if_eq (tgt := 28) (pc' := 8) dX6_three_5 rfl (by decide) (fun c5 => ?_) (fun c5 => ?_)
  ·
    refine j_iconst (pc' := 29) (v := nI 0) dX6_three_28 rfl rfl ?_
    refine j_reti dX6_three_29 rfl (by first | rfl | exact bi_n _) ?_
    simp only [sq, c5, reduceIte, Bool.false_eq_true, and_true, and_false, true_and, false_and, not_true_eq_false, not_false_eq_true, decide_true, decide_false, eq_self, or_true, or_false, true_or, false_or, ne_eq]
    first | exact ⟨rfl, rfl⟩ | rfl
  ·
    refine j_aload_n (pc' := 9) dX6_three_8 rfl rfl ?_
    refine j_iload_n (pc' := 10) dX6_three_9 rfl rfl ?_
    refine j_cVi (pc' := 13) m_X6_146 (c_X6_takes hs (by first | exact hL | (simp (disch := omega) only [pk_un]; exact hL)) hL8 (by first | exact hA0 | exact pk_us) (by repeat (first | exact hA | assumption | refine tkA_le ?_ (by first | assumption | decide)))) (by assumption) (by decide) rfl rfl rfl ⟨Nat.le_of_ble_eq_true rfl, Nat.le_of_ble_eq_true rfl⟩ ⟨Nat.zero_le _, Nat.zero_le _⟩ (Nat.le_of_ble_eq_true rfl) dX6_three_10 rfl (fun x1 I1 hq => ?_)
    obtain ⟨rfl, rfl⟩ := hq
    try rw [upd_upd]
    first | refine j_if_eqB' (tgt := 28) (pc' := 16) (by with_reducible rfl) dX6_three_13 rfl (by decide) (fun c13 => ?_) (fun c13 => ?_) | refine j_if_eqN' (tgt := 28) (pc' := 16) (by with_reducible rfl) (by omega) dX6_three_13 rfl (by decide) (fun c13 => ?_) (fun c13 => ?_) | refine j_if_eq (tgt := 28) (pc' := 16) dX6_three_13 rfl (by decide) (fun c13 => ?_) (fun c13 => ?_)
    ·
      refine j_iconst (pc' := 29) (v := nI 0) dX6_three_28 rfl rfl ?_
      refine j_reti dX6_three_29 rfl (by first | rfl | exact bi_n _) ?_
      simp only [sq, c5, c13, reduceIte, Bool.false_eq_true, and_true, and_false, true_and, false_and, not_true_eq_false, not_false_eq_true, decide_true, decide_false, eq_self, or_true, or_false, true_or, false_or, ne_eq]
      first | exact ⟨rfl, rfl⟩ | rfl
    ·
      refine j_aload_n (pc' := 17) dX6_three_16 rfl rfl ?_
      refine j_iload_n (pc' := 18) dX6_three_17 rfl rfl ?_
      refine j_cVi (pc' := 21) m_X6_146 (c_X6_takes hs (by first | exact hL | (simp (disch := omega) only [pk_un]; exact hL)) hL8 (by first | exact hA0 | exact pk_us) (by repeat (first | exact hA | assumption | refine tkA_le ?_ (by first | assumption | decide)))) (by assumption) (by decide) rfl rfl rfl ⟨Nat.le_of_ble_eq_true rfl, Nat.le_of_ble_eq_true rfl⟩ ⟨Nat.zero_le _, Nat.zero_le _⟩ (Nat.le_of_ble_eq_true rfl) dX6_three_18 rfl (fun x1 I1 hq => ?_)
      obtain ⟨rfl, rfl⟩ := hq
      try rw [upd_upd]
      first | refine j_if_eqB' (tgt := 28) (pc' := 24) (by with_reducible rfl) dX6_three_21 rfl (by decide) (fun c21 => ?_) (fun c21 => ?_) | refine j_if_eqN' (tgt := 28) (pc' := 24) (by with_reducible rfl) (by omega) dX6_three_21 rfl (by decide) (fun c21 => ?_) (fun c21 => ?_) | refine j_if_eq (tgt := 28) (pc' := 24) dX6_three_21 rfl (by decide) (fun c21 => ?_) (fun c21 => ?_)
      ·
        refine j_iconst (pc' := 29) (v := nI 0) dX6_three_28 rfl rfl ?_
        refine j_reti dX6_three_29 rfl (by first | rfl | exact bi_n _) ?_
        simp only [sq, c5, c13, c21, reduceIte, Bool.false_eq_true, and_true, and_false, true_and, false_and, not_true_eq_false, not_false_eq_true, decide_true, decide_false, eq_self, or_true, or_false, true_or, false_or, ne_eq]
        first | exact ⟨rfl, rfl⟩ | rfl
      ·
        refine j_iconst (pc' := 25) (v := nI 1) dX6_three_24 rfl rfl ?_
        refine j_goto (tgt := 29) dX6_three_25 (by decide) ?_
        refine j_reti dX6_three_29 rfl (by first | rfl | exact bi_n _) ?_
        simp only [sq, c5, c13, c21, reduceIte, Bool.false_eq_true, and_true, and_false, true_and, false_and, not_true_eq_false, not_false_eq_true, decide_true, decide_false, eq_self, or_true, or_false, true_or, false_or, ne_eq]
        first | exact ⟨rfl, rfl⟩ | rfl

def isD (x : Int32) : Bool := decide (nI 48 ≤ x ∧ x ≤ nI 57)
/-- the digits from A on, z at most: how many there are then, the number, where it stops -/
def nmF (t : Nat → Int32) (L : Nat) : Nat → Nat → Int32 → Nat → Nat × Int32 × Nat
  | 0, d, x, A => (d, x, A)
  | z + 1, d, x, A => if isD (sg t L A) = true then nmF t L z (d + 1) (nI 10 * x + sg t L A - nI 48) (A + 1) else (d, x, A)
theorem isD_lt {t : Nat → Int32} {L A : Nat} (h : isD (sg t L A) = true) : A < L := by
  unfold sg at h
  split at h
  · assumption
  · exact absurd h (by decide)
theorem nmF_le {t : Nat → Int32} {L : Nat} : ∀ (z d : Nat) (x : Int32) (A : Nat), A ≤ L → A ≤ (nmF t L z d x A).2.2 ∧ (nmF t L z d x A).2.2 ≤ L ∧ d ≤ (nmF t L z d x A).1 := by
  intro z
  induction z with
  | zero => intro d x A h; exact ⟨Nat.le_refl _, h, Nat.le_refl _⟩
  | succ z ih =>
    intro d x A h
    rw [nmF]
    split
    · rename_i hd
      have := ih (d + 1) (nI 10 * x + sg t L A - nI 48) (A + 1) (isD_lt hd)
      exact ⟨by omega, this.2.1, by omega⟩
    · exact ⟨Nat.le_refl _, h, Nat.le_refl _⟩
set_option maxRecDepth 100000 in
set_option maxHeartbeats 4000000 in
theorem lp_X6_number {E : jx_E} {l : Launch} {n : Nat} {kd : jx_K} {R : jx_R} {I0 : jx_I} {m : Nat} {F v a p o t c : Nat → Int32} {Q : jx_Q} {L : Nat} {w : Int32} (hs : sMd kd R m) (hL8 : L ≤ 80) : ∀ (z d : Nat) (x : Int32) (A : Nat) (F : Nat → Int32), z + d = 5 → F 7 = nI L → F 8 = nI A → A ≤ L → jx_J E l cX6_number 4 (some .boolean) RX6 false (jx_rm 2) 0 0 (Q) 0 0 n kd R (mI I0 m (upd F 8 (nI (nmF t L z d x A).2.2)) v a p o t c) 52 [some (.ref m), some (.int w), some (.int (nI (nmF t L z d x A).1)), some (.int (nmF t L z d x A).2.1)] [] → jx_J E l cX6_number 4 (some .boolean) RX6 false (jx_rm 2) 0 0 (Q) 0 0 n kd R (mI I0 m F v a p o t c) 4 [some (.ref m), some (.int w), some (.int (nI d)), some (.int x)] [] := by
  obtain ⟨K0, K1, K2, K3, K4, K5, K6, R0, R1, R2, R4, R6, R10⟩ := id hs
  intro z
  induction z with
  | zero =>
    intro d x A F hz hL hA0 hA hx
    rw [nmF] at hx
    rw [show upd F 8 (nI A) = F from by rw [← hA0]; funext j; unfold upd; split <;> simp_all] at hx
    refine j_iload_n (pc' := 5) dX6_number_4 rfl rfl ?_
    refine j_iconst (pc' := 6) (v := nI 5) dX6_number_5 rfl rfl ?_
    first | refine j_icmp_geN' (tgt := 52) (pc' := 9) (by with_reducible rfl) (by with_reducible rfl) (by omega) (by omega) dX6_number_6 rfl (by decide) (fun c6 => ?_) (fun c6 => ?_) | refine j_icmp_ge (tgt := 52) (pc' := 9) dX6_number_6 rfl (by decide) (fun c6 => ?_) (fun c6 => ?_)
    ·
      skip
      skip
      exact hx
    ·
      exact absurd c6 (by omega)
  | succ z ih =>
    intro d x A F hz hL hA0 hA hx
    have hFA : upd F 8 (nI A) = F := by rw [← hA0]; funext j; unfold upd; split <;> simp_all
    refine j_iload_n (pc' := 5) dX6_number_4 rfl rfl ?_
    refine j_iconst (pc' := 6) (v := nI 5) dX6_number_5 rfl rfl ?_
    first | refine j_icmp_geN' (tgt := 52) (pc' := 9) (by with_reducible rfl) (by with_reducible rfl) (by omega) (by omega) dX6_number_6 rfl (by decide) (fun c6 => ?_) (fun c6 => ?_) | refine j_icmp_ge (tgt := 52) (pc' := 9) dX6_number_6 rfl (by decide) (fun c6 => ?_) (fun c6 => ?_)
    ·
      exact absurd c6 (by omega)
    ·
      refine j_aload_n (pc' := 10) dX6_number_9 rfl rfl ?_
      refine j_cVi (pc' := 13) m_X6_143 (c_X6_sign hs (by first | exact hL | (simp (disch := omega) only [pk_un]; exact hL)) hL8 (by first | exact hA0 | exact pk_us) (by repeat (first | exact hA | assumption | refine tkA_le ?_ (by first | assumption | decide)))) (by assumption) (by decide) rfl rfl rfl ⟨Nat.le_of_ble_eq_true rfl, Nat.le_of_ble_eq_true rfl⟩ ⟨Nat.zero_le _, Nat.zero_le _⟩ (Nat.le_of_ble_eq_true rfl) dX6_number_10 rfl (fun x1 I1 hq => ?_)
      obtain ⟨rfl, rfl⟩ := hq
      refine j_bipush (pc' := 15) (v := nI 48) dX6_number_13 rfl rfl ?_
      refine j_bipush (pc' := 17) (v := nI 57) dX6_number_15 rfl rfl ?_
      refine j_cSi (pc' := 20) m_X6_32 (c_X6_in E l n kd R _ _ _ _) rfl rfl ⟨Nat.le_of_ble_eq_true rfl, Nat.le_of_ble_eq_true rfl⟩ ⟨Nat.zero_le _, Nat.zero_le _⟩ (Nat.le_of_ble_eq_true rfl) dX6_number_17 rfl (fun x1 I1 hq => ?_)
      obtain ⟨rfl, rfl⟩ := hq
      first | refine j_if_eqB' (tgt := 52) (pc' := 23) (by with_reducible rfl) dX6_number_20 rfl (by decide) (fun c20 => ?_) (fun c20 => ?_) | refine j_if_eqN' (tgt := 52) (pc' := 23) (by with_reducible rfl) (by omega) dX6_number_20 rfl (by decide) (fun c20 => ?_) (fun c20 => ?_) | refine j_if_eq (tgt := 52) (pc' := 23) dX6_number_20 rfl (by decide) (fun c20 => ?_) (fun c20 => ?_)
      ·
        have hb : isD (sg t L A) = false := c20
        have h := hx
        rw [nmF, if_neg (by rw [hb]; decide)] at h
        dsimp only at h
        rw [hFA] at h
        exact h
      ·
        have hb : isD (sg t L A) = true := c20
        have hlt := isD_lt hb
        refine j_bipush (pc' := 25) (v := nI 10) dX6_number_23 rfl rfl ?_
        refine j_iload_n (pc' := 26) dX6_number_25 rfl rfl ?_
        refine j_imul (pc' := 27) dX6_number_26 rfl ?_
        refine j_aload_n (pc' := 28) dX6_number_27 rfl rfl ?_
        refine j_cVi (pc' := 31) m_X6_143 (c_X6_sign hs (by first | exact hL | (simp (disch := omega) only [pk_un]; exact hL)) hL8 (by first | exact hA0 | exact pk_us) (by repeat (first | exact hA | assumption | refine tkA_le ?_ (by first | assumption | decide)))) (by assumption) (by decide) rfl rfl rfl ⟨Nat.le_of_ble_eq_true rfl, Nat.le_of_ble_eq_true rfl⟩ ⟨Nat.zero_le _, Nat.zero_le _⟩ (Nat.le_of_ble_eq_true rfl) dX6_number_28 rfl (fun x1 I1 hq => ?_)
        obtain ⟨rfl, rfl⟩ := hq
        refine j_iadd (pc' := 32) dX6_number_31 rfl ?_
        refine j_bipush (pc' := 34) (v := nI 48) dX6_number_32 rfl rfl ?_
        refine j_isub (pc' := 35) dX6_number_34 rfl ?_
        refine j_istore_n (pc' := 36) (lv' := [_, _, _, _]) dX6_number_35 rfl (by decide) rfl ?_
        refine j_aload_n (pc' := 37) dX6_number_36 rfl rfl ?_
        refine j_dup (pc' := 38) dX6_number_37 rfl rfl ?_
        refine j_getIv (pc' := 41) f_X6_140 (by assumption) (by first | (simp (disch := omega) only [jx_upS, jx_upK, jx_upA, mI_0, mI_1, mI_2, mI_3, mI_4, mI_5, mI_6, pk_us, pk_un, hA0]; rfl) | rfl) dX6_number_38 rfl ?_
        refine j_iconst (pc' := 42) (v := nI 1) dX6_number_41 rfl rfl ?_
        first | refine j_iaddN' (pc' := 43) (by with_reducible rfl) (by with_reducible rfl) dX6_number_42 rfl ?_ | refine j_iadd (pc' := 43) dX6_number_42 rfl ?_
        refine j_putI (pc' := 46) f_X6_140 (by assumption) rfl rfl dX6_number_43 rfl ?_
        refine j_eqI mW_0 ?_
        first | refine j_iincN (pc' := 49) (lv' := [_, _, _, _]) dX6_number_46 rfl rfl (by decide) rfl ?_ | refine j_iinc (pc' := 49) (lv' := [_, _, _, _]) dX6_number_46 rfl rfl rfl (by decide) rfl ?_
        refine j_goto (tgt := 4) dX6_number_49 (by decide) ?_
        have h := hx
        rw [nmF, if_pos hb] at h
        exact ih (d + 1) _ (A + 1) (upd F 8 (nI (A + 1))) (by omega) (pk_un (by omega) |>.trans hL) pk_us (by omega) (by rw [upd_upd]; exact h)
def nmB (d : Nat) : Bool := decide (0 < d)

theorem nmF_d5 {t : Nat → Int32} {L : Nat} : ∀ (z d : Nat) (x : Int32) (A : Nat), (nmF t L z d x A).1 ≤ d + z := by
  intro z
  induction z with
  | zero => intro d x A; exact Nat.le_refl _
  | succ z ih =>
    intro d x A
    rw [nmF]
    split
    · have := ih (d + 1) (nI 10 * x + sg t L A - nI 48) (A + 1)
      omega
    · dsimp only; omega
set_option maxRecDepth 100000 in
set_option maxHeartbeats 4000000 in
theorem c_X6_number {E : jx_E} {l : Launch} {n : Nat} {kd : jx_K} {R : jx_R} {I0 : jx_I} {m : Nat} {F v a p o t c : Nat → Int32} {L A D w : Nat} (hs : sMd kd R m) (hL : F 7 = nI L) (hL8 : L ≤ 80) (hA0 : F 8 = nI A) (hA : A ≤ L) (hD : F 9 = nI D) (hD2 : D ≤ 20) (hw : w ≤ 2) : jx_Ci E l yX6_number cX6_number 4 (some .boolean) 2 n kd R (mI I0 m F v a p o t c) [.ref m, .int (nI w)] (fun r I' => r = bi (nmB (nmF t L 5 0 (nI 0) A).1) ∧ I' = mI I0 m (upd F 8 (nI (nmF t L 5 0 (nI 0) A).2.2)) v a p o t (upd c (3 * D + w) (nmF t L 5 0 (nI 0) A).2.1)) := by
  obtain ⟨K0, K1, K2, K3, K4, K5, K6, R0, R1, R2, R4, R6, R10⟩ := id hs
  refine jx_C0.ofJ RX6 [some (.ref m), some (.int (nI w)), none, none] (by decide) rfl rfl (Nat.le_of_ble_eq_true rfl) rfl ?_
  refine j_iconst (pc' := 1) (v := nI 0) dX6_number_0 rfl rfl ?_
  refine j_istore_n (pc' := 2) (lv' := [_, _, _, _]) dX6_number_1 rfl (by decide) rfl ?_
  refine j_iconst (pc' := 3) (v := nI 0) dX6_number_2 rfl rfl ?_
  refine j_istore_n (pc' := 4) (lv' := [_, _, _, _]) dX6_number_3 rfl (by decide) rfl ?_
  refine lp_X6_number (F := F) hs hL8 5 0 (nI 0) A F rfl hL hA0 hA ?_
  have hle := nmF_le (t := t) 5 0 (nI 0) A hA
  have hd5 := nmF_d5 (t := t) (L := L) 5 0 (nI 0) A
  refine j_aload_n (pc' := 53) dX6_number_52 rfl rfl ?_
  refine j_getR (pc' := 56) f_X6_25 (by assumption) (by assumption) dX6_number_53 rfl ?_
  refine j_iconst (pc' := 57) (v := nI 3) dX6_number_56 rfl rfl ?_
  refine j_aload_n (pc' := 58) dX6_number_57 rfl rfl ?_
  refine j_getIv (pc' := 61) f_X6_149 (by assumption) (by first | (simp (disch := omega) only [jx_upS, jx_upK, jx_upA, mI_0, mI_1, mI_2, mI_3, mI_4, mI_5, mI_6, pk_us, pk_un, hD]; rfl) | rfl) dX6_number_58 rfl ?_
  first | refine j_imulN' (pc' := 62) (by with_reducible rfl) (by with_reducible rfl) dX6_number_61 rfl ?_ | refine j_imul (pc' := 62) dX6_number_61 rfl ?_
  refine j_iload_n (pc' := 63) dX6_number_62 rfl rfl ?_
  first | refine j_iaddN' (pc' := 64) (by with_reducible rfl) (by with_reducible rfl) dX6_number_63 rfl ?_ | refine j_iadd (pc' := 64) dX6_number_63 rfl ?_
  refine j_iload_n (pc' := 65) dX6_number_64 rfl rfl ?_
  refine j_iast (pc' := 66) (by assumption) rfl (by omega) (by omega) dX6_number_65 rfl ?_
  first | refine j_eqI mW_1 ?_ | refine j_eqI mW_2 ?_ | refine j_eqI mW_3 ?_ | refine j_eqI mW_4 ?_ | refine j_eqI mW_5 ?_ | refine j_eqI mW_6 ?_
  refine j_iload_n (pc' := 67) dX6_number_66 rfl rfl ?_
  first | refine j_if_leN' (tgt := 74) (pc' := 70) (by with_reducible rfl) (by omega) dX6_number_67 rfl (by decide) (fun c67 => ?_) (fun c67 => ?_) | refine j_if_le (tgt := 74) (pc' := 70) dX6_number_67 rfl (by decide) (fun c67 => ?_) (fun c67 => ?_)
  ·
    refine j_iconst (pc' := 75) (v := nI 0) dX6_number_74 rfl rfl ?_
    refine j_reti dX6_number_75 rfl (by first | rfl | exact bi_n _) ?_
    exact ⟨by first | exact bi_T (decide_eq_true (by omega)) | exact bi_F (decide_eq_false (by omega)), rfl⟩
  ·
    refine j_iconst (pc' := 71) (v := nI 1) dX6_number_70 rfl rfl ?_
    refine j_goto (tgt := 75) dX6_number_71 (by decide) ?_
    refine j_reti dX6_number_75 rfl (by first | rfl | exact bi_n _) ?_
    exact ⟨by first | exact bi_T (decide_eq_true (by omega)) | exact bi_F (decide_eq_false (by omega)), rfl⟩
