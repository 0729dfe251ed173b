/-! what a command does: its answer, and the row behind it -/
def fVal (v : Nat → Int32) (x y : Int32) : Int32 × (Nat → Int32) :=
  if okP v x = true then if okV y = true then (v (176 + 56 * x.toNatClampNeg + 7), upd v (176 + 56 * x.toNatClampNeg + 7) y) else (-20001, v) else (-20001, v)
def fMod (v : Nat → Int32) (x : Int32) : Int32 × (Nat → Int32) := if decide (nI 0 ≤ x ∧ x ≤ nI 3) = true then (v 2, upd v 2 x) else (-20001, v)
def fAck (v : Nat → Int32) (x : Int32) : Int32 × (Nat → Int32) :=
  if okP v x = true then
    if v (176 + 56 * x.toNatClampNeg + 10) = nI 1 then (-20002, v)
    else (v 1 - v (176 + 56 * x.toNatClampNeg + 12), sHap (upd (upd (upd v (176 + 56 * x.toNatClampNeg + 10) (nI 1)) 10 (v 10 + (v 1 - v (176 + 56 * x.toNatClampNeg + 12)))) 11 (v 11 + nI 1)) (nI 3) x)
  else (-20001, v)
def fShv (v : Nat → Int32) (x y : Int32) : Int32 × (Nat → Int32) :=
  if okP v x = true then
    if decide (nI 1 ≤ y ∧ y ≤ nI 1000) = true then
      if v (176 + 56 * x.toNatClampNeg + 5) = nI 1 then (-20002, v)
      else (v 1 + y, sHap (upd v (176 + 56 * x.toNatClampNeg + 13) (v 1 + y)) (nI 4) x)
    else (-20001, v)
  else (-20001, v)

set_option maxRecDepth 100000 in
set_option maxHeartbeats 4000000 in
theorem c_X6_fVal {E : jx_E} {l : Launch} {n : Nat} {kd : jx_K} {R : jx_R} {I0 : jx_I} {m : Nat} {F v a p o t c : Nat → Int32} {k : Nat} {x y : Int32} (hs : sMd kd R m) (hk : v 0 = nI k) (h16 : k ≤ 16) : jx_Ci E l yX6_values cX6_values 4 (some .int) 2 n kd R (mI I0 m F v a p o t c) [.ref m, .int x, .int y] (fun r I' => r = (fVal v x y).1 ∧ I' = mI I0 m F ((fVal v x y).2) a p o t c) := by
  obtain ⟨K0, K1, K2, K3, K4, K5, K6, R0, R1, R2, R4, R6, R10⟩ := id hs
  refine jx_C0.ofJ RX6 [some (.ref m), some (.int x), some (.int y), none] (by decide) rfl rfl (Nat.le_of_ble_eq_true rfl) rfl ?_
  refine j_aload_n (pc' := 1) dX6_values_0 rfl rfl ?_
  refine j_iload_n (pc' := 2) dX6_values_1 rfl rfl ?_
  refine j_cVi (pc' := 5) m_X6_52 (c_X6_isPoint hs) (by assumption) (by decide) rfl rfl rfl ⟨Nat.le_of_ble_eq_true rfl, Nat.le_of_ble_eq_true rfl⟩ ⟨Nat.zero_le _, Nat.zero_le _⟩ (Nat.le_of_ble_eq_true rfl) dX6_values_2 rfl (fun x1 I1 hq => ?_)
  obtain ⟨rfl, rfl⟩ := hq
  first | refine j_if_eqB' (tgt := 15) (pc' := 8) (by with_reducible rfl) dX6_values_5 rfl (by decide) (fun c5 => ?_) (fun c5 => ?_) | refine j_if_eqN' (tgt := 15) (pc' := 8) (by with_reducible rfl) (by omega) dX6_values_5 rfl (by decide) (fun c5 => ?_) (fun c5 => ?_) | refine j_if_eq (tgt := 15) (pc' := 8) dX6_values_5 rfl (by decide) (fun c5 => ?_) (fun c5 => ?_)
  ·
    refine j_sipush (pc' := 18) (v := -20001) dX6_values_15 rfl rfl ?_
    refine j_reti dX6_values_18 rfl (by first | rfl | exact bi_n _) ?_
    constructor <;> simp (disch := omega) only [fVal, nI_clamp, c5, reduceIte, Bool.false_eq_true, eq_self]
  ·
    refine j_iload_n (pc' := 9) dX6_values_8 rfl rfl ?_
    refine j_cSi (pc' := 12) m_X6_36 (c_X6_isValue E l n kd R _ _) rfl rfl ⟨Nat.le_of_ble_eq_true rfl, Nat.le_of_ble_eq_true rfl⟩ ⟨Nat.zero_le _, Nat.zero_le _⟩ (Nat.le_of_ble_eq_true rfl) dX6_values_9 rfl (fun x1 I1 hq => ?_)
    obtain ⟨rfl, rfl⟩ := hq
    first | refine j_if_neB' (tgt := 19) (pc' := 15) (by with_reducible rfl) dX6_values_12 rfl (by decide) (fun c12 => ?_) (fun c12 => ?_) | refine j_if_neN' (tgt := 19) (pc' := 15) (by with_reducible rfl) (by omega) dX6_values_12 rfl (by decide) (fun c12 => ?_) (fun c12 => ?_) | refine j_if_ne (tgt := 19) (pc' := 15) dX6_values_12 rfl (by decide) (fun c12 => ?_) (fun c12 => ?_)
    ·
      have hok := c5
      obtain ⟨i, hi, rfl⟩ := okP_nat hk h16 c5
      refine j_aload_n (pc' := 20) dX6_values_19 rfl rfl ?_
      refine j_iload_n (pc' := 21) dX6_values_20 rfl rfl ?_
      refine j_bipush (pc' := 23) (v := nI 7) dX6_values_21 rfl rfl ?_
      refine j_cVi (pc' := 26) m_X6_59 (c_X6_of hs (by omega) (by omega)) (by assumption) (by decide) rfl rfl rfl ⟨Nat.le_of_ble_eq_true rfl, Nat.le_of_ble_eq_true rfl⟩ ⟨Nat.zero_le _, Nat.zero_le _⟩ (Nat.le_of_ble_eq_true rfl) dX6_values_23 rfl (fun x1 I1 hq => ?_)
      obtain ⟨rfl, rfl⟩ := hq
      refine j_istore_n (pc' := 27) (lv' := [_, _, _, _]) dX6_values_26 rfl (by decide) rfl ?_
      refine j_aload_n (pc' := 28) dX6_values_27 rfl rfl ?_
      refine j_iload_n (pc' := 29) dX6_values_28 rfl rfl ?_
      refine j_bipush (pc' := 31) (v := nI 7) dX6_values_29 rfl rfl ?_
      refine j_iload_n (pc' := 32) dX6_values_31 rfl rfl ?_
      refine j_cVv (pc' := 35) m_X6_44 (c_X6_puts hs (by omega) (by omega)) (by assumption) (by decide) rfl rfl rfl ⟨Nat.le_of_ble_eq_true rfl, Nat.le_of_ble_eq_true rfl⟩ ⟨Nat.zero_le _, Nat.zero_le _⟩ (Nat.le_of_ble_eq_true rfl) dX6_values_32 rfl (fun I1 hq => ?_)
      subst hq
      refine j_iload_n (pc' := 36) dX6_values_35 rfl rfl ?_
      refine j_reti dX6_values_36 rfl (by first | rfl | exact bi_n _) ?_
      constructor <;> simp (disch := omega) only [fVal, nI_clamp, hok, c5, c12, reduceIte, Bool.false_eq_true, eq_self]
    ·
      refine j_sipush (pc' := 18) (v := -20001) dX6_values_15 rfl rfl ?_
      refine j_reti dX6_values_18 rfl (by first | rfl | exact bi_n _) ?_
      constructor <;> simp (disch := omega) only [fVal, nI_clamp, c5, c12, reduceIte, Bool.false_eq_true, eq_self]

set_option maxRecDepth 100000 in
set_option maxHeartbeats 4000000 in
theorem c_X6_fMod {E : jx_E} {l : Launch} {n : Nat} {kd : jx_K} {R : jx_R} {I0 : jx_I} {m : Nat} {F v a p o t c : Nat → Int32} {x : Int32} (hs : sMd kd R m)  : jx_Ci E l yX6_states cX6_states 3 (some .int) 1 n kd R (mI I0 m F v a p o t c) [.ref m, .int x] (fun r I' => r = (fMod v x).1 ∧ I' = mI I0 m F ((fMod v x).2) a p o t c) := by
  obtain ⟨K0, K1, K2, K3, K4, K5, K6, R0, R1, R2, R4, R6, R10⟩ := id hs
  refine jx_C0.ofJ RX6 [some (.ref m), some (.int x), none] (by decide) rfl rfl (Nat.le_of_ble_eq_true rfl) rfl ?_
  refine j_iload_n (pc' := 1) dX6_states_0 rfl rfl ?_
  refine j_iconst (pc' := 2) (v := nI 0) dX6_states_1 rfl rfl ?_
  refine j_iconst (pc' := 3) (v := nI 3) dX6_states_2 rfl rfl ?_
  refine j_cSi (pc' := 6) m_X6_32 (c_X6_in E l n kd R _ _ _ _) rfl rfl ⟨Nat.le_of_ble_eq_true rfl, Nat.le_of_ble_eq_true rfl⟩ ⟨Nat.zero_le _, Nat.zero_le _⟩ (Nat.le_of_ble_eq_true rfl) dX6_states_3 rfl (fun x1 I1 hq => ?_)
  obtain ⟨rfl, rfl⟩ := hq
  first | refine j_if_neB' (tgt := 13) (pc' := 9) (by with_reducible rfl) dX6_states_6 rfl (by decide) (fun c6 => ?_) (fun c6 => ?_) | refine j_if_neN' (tgt := 13) (pc' := 9) (by with_reducible rfl) (by omega) dX6_states_6 rfl (by decide) (fun c6 => ?_) (fun c6 => ?_) | refine j_if_ne (tgt := 13) (pc' := 9) dX6_states_6 rfl (by decide) (fun c6 => ?_) (fun c6 => ?_)
  ·
    refine j_aload_n (pc' := 14) dX6_states_13 rfl rfl ?_
    refine j_getR (pc' := 17) f_X6_7 (by assumption) (by assumption) dX6_states_14 rfl ?_
    refine j_iconst (pc' := 18) (v := nI 2) dX6_states_17 rfl rfl ?_
    refine j_ialdv (pc' := 19) (by assumption) rfl (by omega) (by omega) (by first | (simp (disch := omega) only [jx_upS, jx_upK, jx_upA, mI_0, mI_1, mI_2, mI_3, mI_4, mI_5, mI_6, pk_us, pk_un]; rfl) | rfl) dX6_states_18 rfl ?_
    refine j_istore_n (pc' := 20) (lv' := [_, _, _]) dX6_states_19 rfl (by decide) rfl ?_
    refine j_aload_n (pc' := 21) dX6_states_20 rfl rfl ?_
    refine j_getR (pc' := 24) f_X6_7 (by assumption) (by assumption) dX6_states_21 rfl ?_
    refine j_iconst (pc' := 25) (v := nI 2) dX6_states_24 rfl rfl ?_
    refine j_iload_n (pc' := 26) dX6_states_25 rfl rfl ?_
    refine j_iast (pc' := 27) (by assumption) rfl (by omega) (by omega) dX6_states_26 rfl ?_
    first | refine j_eqI mW_1 ?_ | refine j_eqI mW_2 ?_ | refine j_eqI mW_3 ?_ | refine j_eqI mW_4 ?_ | refine j_eqI mW_5 ?_ | refine j_eqI mW_6 ?_
    refine j_iload_n (pc' := 28) dX6_states_27 rfl rfl ?_
    refine j_reti dX6_states_28 rfl (by first | rfl | exact bi_n _) ?_
    constructor <;> simp (disch := omega) only [fMod, nI_clamp, c6, reduceIte, Bool.false_eq_true, eq_self]
  ·
    refine j_sipush (pc' := 12) (v := -20001) dX6_states_9 rfl rfl ?_
    refine j_reti dX6_states_12 rfl (by first | rfl | exact bi_n _) ?_
    constructor <;> simp (disch := omega) only [fMod, nI_clamp, c6, reduceIte, Bool.false_eq_true, eq_self]

set_option maxRecDepth 100000 in
set_option maxHeartbeats 4000000 in
theorem c_X6_fAck {E : jx_E} {l : Launch} {n : Nat} {kd : jx_K} {R : jx_R} {I0 : jx_I} {m : Nat} {F v a p o t c : Nat → Int32} {k N : Nat} {x : Int32} (hs : sMd kd R m) (hk : v 0 = nI k) (h16 : k ≤ 16) (hN : v 9 = nI N) (hNb : N < 2147483000) : jx_Ci E l yX6_acks cX6_acks 3 (some .int) 2 n kd R (mI I0 m F v a p o t c) [.ref m, .int x] (fun r I' => r = (fAck v x).1 ∧ I' = mI I0 m F ((fAck v x).2) a p o t c) := by
  obtain ⟨K0, K1, K2, K3, K4, K5, K6, R0, R1, R2, R4, R6, R10⟩ := id hs
  refine jx_C0.ofJ RX6 [some (.ref m), some (.int x), none] (by decide) rfl rfl (Nat.le_of_ble_eq_true rfl) rfl ?_
  refine j_aload_n (pc' := 1) dX6_acks_0 rfl rfl ?_
  refine j_iload_n (pc' := 2) dX6_acks_1 rfl rfl ?_
  refine j_cVi (pc' := 5) m_X6_52 (c_X6_isPoint hs) (by assumption) (by decide) rfl rfl rfl ⟨Nat.le_of_ble_eq_true rfl, Nat.le_of_ble_eq_true rfl⟩ ⟨Nat.zero_le _, Nat.zero_le _⟩ (Nat.le_of_ble_eq_true rfl) dX6_acks_2 rfl (fun x1 I1 hq => ?_)
  obtain ⟨rfl, rfl⟩ := hq
  first | refine j_if_neB' (tgt := 12) (pc' := 8) (by with_reducible rfl) dX6_acks_5 rfl (by decide) (fun c5 => ?_) (fun c5 => ?_) | refine j_if_neN' (tgt := 12) (pc' := 8) (by with_reducible rfl) (by omega) dX6_acks_5 rfl (by decide) (fun c5 => ?_) (fun c5 => ?_) | refine j_if_ne (tgt := 12) (pc' := 8) dX6_acks_5 rfl (by decide) (fun c5 => ?_) (fun c5 => ?_)
  ·
    have hok := c5
    obtain ⟨i, hi, rfl⟩ := okP_nat hk h16 c5
    refine j_aload_n (pc' := 13) dX6_acks_12 rfl rfl ?_
    refine j_iload_n (pc' := 14) dX6_acks_13 rfl rfl ?_
    refine j_bipush (pc' := 16) (v := nI 10) dX6_acks_14 rfl rfl ?_
    refine j_cVi (pc' := 19) m_X6_59 (c_X6_of hs (by omega) (by omega)) (by assumption) (by decide) rfl rfl rfl ⟨Nat.le_of_ble_eq_true rfl, Nat.le_of_ble_eq_true rfl⟩ ⟨Nat.zero_le _, Nat.zero_le _⟩ (Nat.le_of_ble_eq_true rfl) dX6_acks_16 rfl (fun x1 I1 hq => ?_)
    obtain ⟨rfl, rfl⟩ := hq
    refine j_iconst (pc' := 20) (v := nI 1) dX6_acks_19 rfl rfl ?_
    first | refine j_icmp_neN' (tgt := 27) (pc' := 23) (by with_reducible rfl) (by with_reducible rfl) (by omega) (by omega) dX6_acks_20 rfl (by decide) (fun c20 => ?_) (fun c20 => ?_) | refine j_icmp_ne (tgt := 27) (pc' := 23) dX6_acks_20 rfl (by decide) (fun c20 => ?_) (fun c20 => ?_)
    ·
      refine j_aload_n (pc' := 28) dX6_acks_27 rfl rfl ?_
      refine j_iload_n (pc' := 29) dX6_acks_28 rfl rfl ?_
      refine j_bipush (pc' := 31) (v := nI 10) dX6_acks_29 rfl rfl ?_
      refine j_iconst (pc' := 32) (v := nI 1) dX6_acks_31 rfl rfl ?_
      refine j_cVv (pc' := 35) m_X6_44 (c_X6_puts hs (by omega) (by omega)) (by assumption) (by decide) rfl rfl rfl ⟨Nat.le_of_ble_eq_true rfl, Nat.le_of_ble_eq_true rfl⟩ ⟨Nat.zero_le _, Nat.zero_le _⟩ (Nat.le_of_ble_eq_true rfl) dX6_acks_32 rfl (fun I1 hq => ?_)
      subst hq
      refine j_aload_n (pc' := 36) dX6_acks_35 rfl rfl ?_
      refine j_getR (pc' := 39) f_X6_7 (by assumption) (by assumption) dX6_acks_36 rfl ?_
      refine j_iconst (pc' := 40) (v := nI 1) dX6_acks_39 rfl rfl ?_
      refine j_ialdv (pc' := 41) (by assumption) rfl (by omega) (by omega) (by first | (simp (disch := omega) only [jx_upS, jx_upK, jx_upA, mI_0, mI_1, mI_2, mI_3, mI_4, mI_5, mI_6, pk_us, pk_un]; rfl) | rfl) dX6_acks_40 rfl ?_
      refine j_aload_n (pc' := 42) dX6_acks_41 rfl rfl ?_
      refine j_iload_n (pc' := 43) dX6_acks_42 rfl rfl ?_
      refine j_bipush (pc' := 45) (v := nI 12) dX6_acks_43 rfl rfl ?_
      refine j_cVi (pc' := 48) m_X6_59 (c_X6_of hs (by omega) (by omega)) (by assumption) (by decide) rfl rfl rfl ⟨Nat.le_of_ble_eq_true rfl, Nat.le_of_ble_eq_true rfl⟩ ⟨Nat.zero_le _, Nat.zero_le _⟩ (Nat.le_of_ble_eq_true rfl) dX6_acks_45 rfl (fun x1 I1 hq => ?_)
      obtain ⟨rfl, rfl⟩ := hq
      first | refine j_isubN' (pc' := 49) (by with_reducible rfl) (by with_reducible rfl) (by omega) dX6_acks_48 rfl ?_ | refine j_isub (pc' := 49) dX6_acks_48 rfl ?_
      refine j_istore_n (pc' := 50) (lv' := [_, _, _]) dX6_acks_49 rfl (by decide) rfl ?_
      refine j_aload_n (pc' := 51) dX6_acks_50 rfl rfl ?_
      refine j_getR (pc' := 54) f_X6_7 (by assumption) (by assumption) dX6_acks_51 rfl ?_
      refine j_bipush (pc' := 56) (v := nI 10) dX6_acks_54 rfl rfl ?_
      refine j_dup2 (pc' := 57) dX6_acks_56 rfl rfl rfl ?_
      refine j_ialdv (pc' := 58) (by assumption) rfl (by omega) (by omega) (by first | (simp (disch := omega) only [jx_upS, jx_upK, jx_upA, mI_0, mI_1, mI_2, mI_3, mI_4, mI_5, mI_6, pk_us, pk_un]; rfl) | rfl) dX6_acks_57 rfl ?_
      refine j_iload_n (pc' := 59) dX6_acks_58 rfl rfl ?_
      first | refine j_iaddN' (pc' := 60) (by with_reducible rfl) (by with_reducible rfl) dX6_acks_59 rfl ?_ | refine j_iadd (pc' := 60) dX6_acks_59 rfl ?_
      refine j_iast (pc' := 61) (by assumption) rfl (by omega) (by omega) dX6_acks_60 rfl ?_
      first | refine j_eqI mW_1 ?_ | refine j_eqI mW_2 ?_ | refine j_eqI mW_3 ?_ | refine j_eqI mW_4 ?_ | refine j_eqI mW_5 ?_ | refine j_eqI mW_6 ?_
      refine j_aload_n (pc' := 62) dX6_acks_61 rfl rfl ?_
      refine j_getR (pc' := 65) f_X6_7 (by assumption) (by assumption) dX6_acks_62 rfl ?_
      refine j_bipush (pc' := 67) (v := nI 11) dX6_acks_65 rfl rfl ?_
      refine j_dup2 (pc' := 68) dX6_acks_67 rfl rfl rfl ?_
      refine j_ialdv (pc' := 69) (by assumption) rfl (by omega) (by omega) (by first | (simp (disch := omega) only [jx_upS, jx_upK, jx_upA, mI_0, mI_1, mI_2, mI_3, mI_4, mI_5, mI_6, pk_us, pk_un]; rfl) | rfl) dX6_acks_68 rfl ?_
      refine j_iconst (pc' := 70) (v := nI 1) dX6_acks_69 rfl rfl ?_
      first | refine j_iaddN' (pc' := 71) (by with_reducible rfl) (by with_reducible rfl) dX6_acks_70 rfl ?_ | refine j_iadd (pc' := 71) dX6_acks_70 rfl ?_
      refine j_iast (pc' := 72) (by assumption) rfl (by omega) (by omega) dX6_acks_71 rfl ?_
      first | refine j_eqI mW_1 ?_ | refine j_eqI mW_2 ?_ | refine j_eqI mW_3 ?_ | refine j_eqI mW_4 ?_ | refine j_eqI mW_5 ?_ | refine j_eqI mW_6 ?_
      refine j_aload_n (pc' := 73) dX6_acks_72 rfl rfl ?_
      refine j_iconst (pc' := 74) (v := nI 3) dX6_acks_73 rfl rfl ?_
      refine j_iload_n (pc' := 75) dX6_acks_74 rfl rfl ?_
      refine j_cVv (pc' := 78) m_X6_48 (c_X6_happens hs (N := N) (by simp (disch := omega) only [pk_us, pk_un, hN]) hNb) (by assumption) (by decide) rfl rfl rfl ⟨Nat.le_of_ble_eq_true rfl, Nat.le_of_ble_eq_true rfl⟩ ⟨Nat.zero_le _, Nat.zero_le _⟩ (Nat.le_of_ble_eq_true rfl) dX6_acks_75 rfl (fun I1 hq => ?_)
      subst hq
      refine j_iload_n (pc' := 79) dX6_acks_78 rfl rfl ?_
      refine j_reti dX6_acks_79 rfl (by first | rfl | exact bi_n _) ?_
      constructor <;> simp (disch := omega) only [fAck, pk_us, pk_un, sHap_o, nI_clamp, hok, c5, c20, reduceIte, Bool.false_eq_true, eq_self]
    ·
      refine j_sipush (pc' := 26) (v := -20002) dX6_acks_23 rfl rfl ?_
      refine j_reti dX6_acks_26 rfl (by first | rfl | exact bi_n _) ?_
      constructor <;> simp (disch := omega) only [fAck, pk_us, pk_un, sHap_o, nI_clamp, hok, c5, c20, reduceIte, Bool.false_eq_true, eq_self]
  ·
    refine j_sipush (pc' := 11) (v := -20001) dX6_acks_8 rfl rfl ?_
    refine j_reti dX6_acks_11 rfl (by first | rfl | exact bi_n _) ?_
    constructor <;> simp (disch := omega) only [fAck, pk_us, pk_un, sHap_o, nI_clamp, c5, reduceIte, Bool.false_eq_true, eq_self]

set_option maxRecDepth 100000 in
set_option maxHeartbeats 4000000 in
theorem c_X6_fShv {E : jx_E} {l : Launch} {n : Nat} {kd : jx_K} {R : jx_R} {I0 : jx_I} {m : Nat} {F v a p o t c : Nat → Int32} {k N : Nat} {x y : Int32} (hs : sMd kd R m) (hk : v 0 = nI k) (h16 : k ≤ 16) (hN : v 9 = nI N) (hNb : N < 2147483000) : jx_Ci E l yX6_shelves cX6_shelves 3 (some .int) 2 n kd R (mI I0 m F v a p o t c) [.ref m, .int x, .int y] (fun r I' => r = (fShv v x y).1 ∧ I' = mI I0 m F ((fShv v x y).2) a p o t c) := by
  obtain ⟨K0, K1, K2, K3, K4, K5, K6, R0, R1, R2, R4, R6, R10⟩ := id hs
  refine jx_C0.ofJ RX6 [some (.ref m), some (.int x), some (.int y)] (by decide) rfl rfl (Nat.le_of_ble_eq_true rfl) rfl ?_
  refine j_aload_n (pc' := 1) dX6_shelves_0 rfl rfl ?_
  refine j_iload_n (pc' := 2) dX6_shelves_1 rfl rfl ?_
  refine j_cVi (pc' := 5) m_X6_52 (c_X6_isPoint hs) (by assumption) (by decide) rfl rfl rfl ⟨Nat.le_of_ble_eq_true rfl, Nat.le_of_ble_eq_true rfl⟩ ⟨Nat.zero_le _, Nat.zero_le _⟩ (Nat.le_of_ble_eq_true rfl) dX6_shelves_2 rfl (fun x1 I1 hq => ?_)
  obtain ⟨rfl, rfl⟩ := hq
  first | refine j_if_eqB' (tgt := 19) (pc' := 8) (by with_reducible rfl) dX6_shelves_5 rfl (by decide) (fun c5 => ?_) (fun c5 => ?_) | refine j_if_eqN' (tgt := 19) (pc' := 8) (by with_reducible rfl) (by omega) dX6_shelves_5 rfl (by decide) (fun c5 => ?_) (fun c5 => ?_) | refine j_if_eq (tgt := 19) (pc' := 8) dX6_shelves_5 rfl (by decide) (fun c5 => ?_) (fun c5 => ?_)
  ·
    refine j_sipush (pc' := 22) (v := -20001) dX6_shelves_19 rfl rfl ?_
    refine j_reti dX6_shelves_22 rfl (by first | rfl | exact bi_n _) ?_
    constructor <;> simp (disch := omega) only [fShv, pk_us, pk_un, sHap_o, nI_clamp, c5, reduceIte, Bool.false_eq_true, eq_self]
  ·
    refine j_iload_n (pc' := 9) dX6_shelves_8 rfl rfl ?_
    refine j_iconst (pc' := 10) (v := nI 1) dX6_shelves_9 rfl rfl ?_
    refine j_sipush (pc' := 13) (v := nI 1000) dX6_shelves_10 rfl rfl ?_
    refine j_cSi (pc' := 16) m_X6_32 (c_X6_in E l n kd R _ _ _ _) rfl rfl ⟨Nat.le_of_ble_eq_true rfl, Nat.le_of_ble_eq_true rfl⟩ ⟨Nat.zero_le _, Nat.zero_le _⟩ (Nat.le_of_ble_eq_true rfl) dX6_shelves_13 rfl (fun x1 I1 hq => ?_)
    obtain ⟨rfl, rfl⟩ := hq
    first | refine j_if_neB' (tgt := 23) (pc' := 19) (by with_reducible rfl) dX6_shelves_16 rfl (by decide) (fun c16 => ?_) (fun c16 => ?_) | refine j_if_neN' (tgt := 23) (pc' := 19) (by with_reducible rfl) (by omega) dX6_shelves_16 rfl (by decide) (fun c16 => ?_) (fun c16 => ?_) | refine j_if_ne (tgt := 23) (pc' := 19) dX6_shelves_16 rfl (by decide) (fun c16 => ?_) (fun c16 => ?_)
    ·
      have hok := c5
      obtain ⟨i, hi, rfl⟩ := okP_nat hk h16 c5
      refine j_aload_n (pc' := 24) dX6_shelves_23 rfl rfl ?_
      refine j_iload_n (pc' := 25) dX6_shelves_24 rfl rfl ?_
      refine j_iconst (pc' := 26) (v := nI 5) dX6_shelves_25 rfl rfl ?_
      refine j_cVi (pc' := 29) m_X6_59 (c_X6_of hs (by omega) (by omega)) (by assumption) (by decide) rfl rfl rfl ⟨Nat.le_of_ble_eq_true rfl, Nat.le_of_ble_eq_true rfl⟩ ⟨Nat.zero_le _, Nat.zero_le _⟩ (Nat.le_of_ble_eq_true rfl) dX6_shelves_26 rfl (fun x1 I1 hq => ?_)
      obtain ⟨rfl, rfl⟩ := hq
      refine j_iconst (pc' := 30) (v := nI 1) dX6_shelves_29 rfl rfl ?_
      first | refine j_icmp_neN' (tgt := 37) (pc' := 33) (by with_reducible rfl) (by with_reducible rfl) (by omega) (by omega) dX6_shelves_30 rfl (by decide) (fun c30 => ?_) (fun c30 => ?_) | refine j_icmp_ne (tgt := 37) (pc' := 33) dX6_shelves_30 rfl (by decide) (fun c30 => ?_) (fun c30 => ?_)
      ·
        refine j_aload_n (pc' := 38) dX6_shelves_37 rfl rfl ?_
        refine j_iload_n (pc' := 39) dX6_shelves_38 rfl rfl ?_
        refine j_bipush (pc' := 41) (v := nI 13) dX6_shelves_39 rfl rfl ?_
        refine j_aload_n (pc' := 42) dX6_shelves_41 rfl rfl ?_
        refine j_getR (pc' := 45) f_X6_7 (by assumption) (by assumption) dX6_shelves_42 rfl ?_
        refine j_iconst (pc' := 46) (v := nI 1) dX6_shelves_45 rfl rfl ?_
        refine j_ialdv (pc' := 47) (by assumption) rfl (by omega) (by omega) (by first | (simp (disch := omega) only [jx_upS, jx_upK, jx_upA, mI_0, mI_1, mI_2, mI_3, mI_4, mI_5, mI_6, pk_us, pk_un]; rfl) | rfl) dX6_shelves_46 rfl ?_
        refine j_iload_n (pc' := 48) dX6_shelves_47 rfl rfl ?_
        first | refine j_iaddN' (pc' := 49) (by with_reducible rfl) (by with_reducible rfl) dX6_shelves_48 rfl ?_ | refine j_iadd (pc' := 49) dX6_shelves_48 rfl ?_
        refine j_cVv (pc' := 52) m_X6_44 (c_X6_puts hs (by omega) (by omega)) (by assumption) (by decide) rfl rfl rfl ⟨Nat.le_of_ble_eq_true rfl, Nat.le_of_ble_eq_true rfl⟩ ⟨Nat.zero_le _, Nat.zero_le _⟩ (Nat.le_of_ble_eq_true rfl) dX6_shelves_49 rfl (fun I1 hq => ?_)
        subst hq
        refine j_aload_n (pc' := 53) dX6_shelves_52 rfl rfl ?_
        refine j_iconst (pc' := 54) (v := nI 4) dX6_shelves_53 rfl rfl ?_
        refine j_iload_n (pc' := 55) dX6_shelves_54 rfl rfl ?_
        refine j_cVv (pc' := 58) m_X6_48 (c_X6_happens hs (N := N) (by simp (disch := omega) only [pk_us, pk_un, hN]) hNb) (by assumption) (by decide) rfl rfl rfl ⟨Nat.le_of_ble_eq_true rfl, Nat.le_of_ble_eq_true rfl⟩ ⟨Nat.zero_le _, Nat.zero_le _⟩ (Nat.le_of_ble_eq_true rfl) dX6_shelves_55 rfl (fun I1 hq => ?_)
        subst hq
        refine j_aload_n (pc' := 59) dX6_shelves_58 rfl rfl ?_
        refine j_getR (pc' := 62) f_X6_7 (by assumption) (by assumption) dX6_shelves_59 rfl ?_
        refine j_iconst (pc' := 63) (v := nI 1) dX6_shelves_62 rfl rfl ?_
        refine j_ialdv (pc' := 64) (by assumption) rfl (by omega) (by omega) (by first | (simp (disch := omega) only [jx_upS, jx_upK, jx_upA, mI_0, mI_1, mI_2, mI_3, mI_4, mI_5, mI_6, pk_us, pk_un]; rfl) | rfl) dX6_shelves_63 rfl ?_
        refine j_iload_n (pc' := 65) dX6_shelves_64 rfl rfl ?_
        first | refine j_iaddN' (pc' := 66) (by with_reducible rfl) (by with_reducible rfl) dX6_shelves_65 rfl ?_ | refine j_iadd (pc' := 66) dX6_shelves_65 rfl ?_
        refine j_reti dX6_shelves_66 rfl (by first | rfl | exact bi_n _) ?_
        constructor <;> simp (disch := omega) only [fShv, pk_us, pk_un, sHap_o, nI_clamp, hok, c5, c16, c30, reduceIte, Bool.false_eq_true, eq_self]
      ·
        refine j_sipush (pc' := 36) (v := -20002) dX6_shelves_33 rfl rfl ?_
        refine j_reti dX6_shelves_36 rfl (by first | rfl | exact bi_n _) ?_
        constructor <;> simp (disch := omega) only [fShv, pk_us, pk_un, sHap_o, nI_clamp, hok, c5, c16, c30, reduceIte, Bool.false_eq_true, eq_self]
    ·
      refine j_sipush (pc' := 22) (v := -20001) dX6_shelves_19 rfl rfl ?_
      refine j_reti dX6_shelves_22 rfl (by first | rfl | exact bi_n _) ?_
      constructor <;> simp (disch := omega) only [fShv, pk_us, pk_un, sHap_o, nI_clamp, c5, c16, reduceIte, Bool.false_eq_true, eq_self]

/-- the activations from t down to the window's end -/
def rsum (v : Nat → Int32) (T S : Nat) : Nat → Int32 → Int32
  | 0, acc => acc
  | t + 1, acc => if T < t + 1 + S then rsum v T S t (acc + v (16 + (t + 1) % 64)) else acc
theorem rs_le {t T S : Nat} (ht : t < 1000000) (hT : T < 1000000) (hS : S < 1000000) : nI t ≤ nI T - nI S ↔ t + S ≤ T := by
  rw [Int32.le_iff_toInt_le, pk_sub_toInt (by omega) (by omega), nI_toInt (by omega)]
  omega

set_option maxRecDepth 100000 in
set_option maxHeartbeats 4000000 in
theorem lp_X6_rate {E : jx_E} {l : Launch} {n : Nat} {kd : jx_K} {R : jx_R} {I0 : jx_I} {m : Nat} {F v a p o t0 c : Nat → Int32} {T S : Nat} (hs : sMd kd R m) (hT : v 1 = nI T) (hS : v 5 = nI S) (hT1 : T ≤ 10000) (hS1 : S ≤ 60) : ∀ (t : Nat) (acc : Int32), t ≤ T → jx_J E l cX6_rate 3 (some .int) RX6 false (jx_rm 0) 0 0 (jx_Q0 n kd R (jx_Pi (fun r I' => r = rsum v T S t acc ∧ I' = mI I0 m F v a p o t0 c))) 0 0 n kd R (mI I0 m F v a p o t0 c) 9 [some (.ref m), some (.int acc), some (.int (nI t))] [] := by
  obtain ⟨K0, K1, K2, K3, K4, K5, K6, R0, R1, R2, R4, R6, R10⟩ := id hs
  intro t
  induction t with
  | zero =>
    intro acc ht
    refine j_iload_n (pc' := 10) dX6_rate_9 rfl rfl ?_
    refine j_aload_n (pc' := 11) dX6_rate_10 rfl rfl ?_
    refine j_getR (pc' := 14) f_X6_7 (by assumption) (by assumption) dX6_rate_11 rfl ?_
    refine j_iconst (pc' := 15) (v := nI 1) dX6_rate_14 rfl rfl ?_
    refine j_ialdv (pc' := 16) (by assumption) rfl (by omega) (by omega) (by first | (simp (disch := omega) only [jx_upS, jx_upK, jx_upA, mI_0, mI_1, mI_2, mI_3, mI_4, mI_5, mI_6, pk_us, pk_un, hT, hS]; rfl) | rfl) dX6_rate_15 rfl ?_
    refine j_aload_n (pc' := 17) dX6_rate_16 rfl rfl ?_
    refine j_getR (pc' := 20) f_X6_7 (by assumption) (by assumption) dX6_rate_17 rfl ?_
    refine j_iconst (pc' := 21) (v := nI 5) dX6_rate_20 rfl rfl ?_
    refine j_ialdv (pc' := 22) (by assumption) rfl (by omega) (by omega) (by first | (simp (disch := omega) only [jx_upS, jx_upK, jx_upA, mI_0, mI_1, mI_2, mI_3, mI_4, mI_5, mI_6, pk_us, pk_un, hT, hS]; rfl) | rfl) dX6_rate_21 rfl ?_
    first | refine j_isubN' (pc' := 23) (by with_reducible rfl) (by with_reducible rfl) (by omega) dX6_rate_22 rfl ?_ | refine j_isub (pc' := 23) dX6_rate_22 rfl ?_
    first | refine j_icmp_leN' (tgt := 51) (pc' := 26) (by with_reducible rfl) (by with_reducible rfl) (by omega) (by omega) dX6_rate_23 rfl (by decide) (fun c23 => ?_) (fun c23 => ?_) | refine j_icmp_le (tgt := 51) (pc' := 26) dX6_rate_23 rfl (by decide) (fun c23 => ?_) (fun c23 => ?_)
    ·
      refine j_iload_n (pc' := 52) dX6_rate_51 rfl rfl ?_
      refine j_reti dX6_rate_52 rfl (by first | rfl | exact bi_n _) ?_
      refine ⟨?_, rfl⟩
      rfl
    ·
      refine j_iload_n (pc' := 27) dX6_rate_26 rfl rfl ?_
      first | refine j_if_leN' (tgt := 51) (pc' := 30) (by with_reducible rfl) (by omega) dX6_rate_27 rfl (by decide) (fun c27 => ?_) (fun c27 => ?_) | refine j_if_le (tgt := 51) (pc' := 30) dX6_rate_27 rfl (by decide) (fun c27 => ?_) (fun c27 => ?_)
      ·
        refine j_iload_n (pc' := 52) dX6_rate_51 rfl rfl ?_
        refine j_reti dX6_rate_52 rfl (by first | rfl | exact bi_n _) ?_
        refine ⟨?_, rfl⟩
        rfl
      ·
        exact absurd c27 (by omega)
  | succ t ih =>
    intro acc ht
    refine j_iload_n (pc' := 10) dX6_rate_9 rfl rfl ?_
    refine j_aload_n (pc' := 11) dX6_rate_10 rfl rfl ?_
    refine j_getR (pc' := 14) f_X6_7 (by assumption) (by assumption) dX6_rate_11 rfl ?_
    refine j_iconst (pc' := 15) (v := nI 1) dX6_rate_14 rfl rfl ?_
    refine j_ialdv (pc' := 16) (by assumption) rfl (by omega) (by omega) (by first | (simp (disch := omega) only [jx_upS, jx_upK, jx_upA, mI_0, mI_1, mI_2, mI_3, mI_4, mI_5, mI_6, pk_us, pk_un, hT, hS]; rfl) | rfl) dX6_rate_15 rfl ?_
    refine j_aload_n (pc' := 17) dX6_rate_16 rfl rfl ?_
    refine j_getR (pc' := 20) f_X6_7 (by assumption) (by assumption) dX6_rate_17 rfl ?_
    refine j_iconst (pc' := 21) (v := nI 5) dX6_rate_20 rfl rfl ?_
    refine j_ialdv (pc' := 22) (by assumption) rfl (by omega) (by omega) (by first | (simp (disch := omega) only [jx_upS, jx_upK, jx_upA, mI_0, mI_1, mI_2, mI_3, mI_4, mI_5, mI_6, pk_us, pk_un, hT, hS]; rfl) | rfl) dX6_rate_21 rfl ?_
    first | refine j_isubN' (pc' := 23) (by with_reducible rfl) (by with_reducible rfl) (by omega) dX6_rate_22 rfl ?_ | refine j_isub (pc' := 23) dX6_rate_22 rfl ?_
    first | refine j_icmp_leN' (tgt := 51) (pc' := 26) (by with_reducible rfl) (by with_reducible rfl) (by omega) (by omega) dX6_rate_23 rfl (by decide) (fun c23 => ?_) (fun c23 => ?_) | refine j_icmp_le (tgt := 51) (pc' := 26) dX6_rate_23 rfl (by decide) (fun c23 => ?_) (fun c23 => ?_)
    ·
      refine j_iload_n (pc' := 52) dX6_rate_51 rfl rfl ?_
      refine j_reti dX6_rate_52 rfl (by first | rfl | exact bi_n _) ?_
      refine ⟨?_, rfl⟩
      first | (rw [rsum, if_neg (by rw [rs_le (by omega) (by omega) (by omega)] at c23; omega)]; done) | (exfalso; omega)
    ·
      refine j_iload_n (pc' := 27) dX6_rate_26 rfl rfl ?_
      first | refine j_if_leN' (tgt := 51) (pc' := 30) (by with_reducible rfl) (by omega) dX6_rate_27 rfl (by decide) (fun c27 => ?_) (fun c27 => ?_) | refine j_if_le (tgt := 51) (pc' := 30) dX6_rate_27 rfl (by decide) (fun c27 => ?_) (fun c27 => ?_)
      ·
        refine j_iload_n (pc' := 52) dX6_rate_51 rfl rfl ?_
        refine j_reti dX6_rate_52 rfl (by first | rfl | exact bi_n _) ?_
        refine ⟨?_, rfl⟩
        first | (rw [rsum, if_neg (by rw [rs_le (by omega) (by omega) (by omega)] at c23; omega)]; done) | (exfalso; omega)
      ·
        refine j_iload_n (pc' := 31) dX6_rate_30 rfl rfl ?_
        refine j_aload_n (pc' := 32) dX6_rate_31 rfl rfl ?_
        refine j_getR (pc' := 35) f_X6_7 (by assumption) (by assumption) dX6_rate_32 rfl ?_
        refine j_bipush (pc' := 37) (v := nI 16) dX6_rate_35 rfl rfl ?_
        refine j_iload_n (pc' := 38) dX6_rate_37 rfl rfl ?_
        refine j_bipush (pc' := 40) (v := nI 64) dX6_rate_38 rfl rfl ?_
        refine j_iremN' (pc' := 41) (by with_reducible rfl) (by with_reducible rfl) (by omega) (by omega) (by omega) dX6_rate_40 rfl ?_
        first | refine j_iaddN' (pc' := 42) (by with_reducible rfl) (by with_reducible rfl) dX6_rate_41 rfl ?_ | refine j_iadd (pc' := 42) dX6_rate_41 rfl ?_
        refine j_ialdv (pc' := 43) (by assumption) rfl (by omega) (by omega) (by first | (simp (disch := omega) only [jx_upS, jx_upK, jx_upA, mI_0, mI_1, mI_2, mI_3, mI_4, mI_5, mI_6, pk_us, pk_un, hT, hS]; rfl) | rfl) dX6_rate_42 rfl ?_
        first | refine j_iaddN' (pc' := 44) (by with_reducible rfl) (by with_reducible rfl) dX6_rate_43 rfl ?_ | refine j_iadd (pc' := 44) dX6_rate_43 rfl ?_
        refine j_istore_n (pc' := 45) (lv' := [_, _, _]) dX6_rate_44 rfl (by decide) rfl ?_
        refine j_iincP (pc' := 48) (lv' := [_, _, _]) (by omega) dX6_rate_45 rfl rfl (by decide) rfl ?_
        refine j_goto (tgt := 9) dX6_rate_48 (by decide) ?_
        rw [rs_le (by omega) (by omega) (by omega)] at c23
        rw [rsum, if_pos (by omega)]
        exact ih _ (by omega)
set_option maxRecDepth 100000 in
set_option maxHeartbeats 4000000 in
theorem c_X6_rate {E : jx_E} {l : Launch} {n : Nat} {kd : jx_K} {R : jx_R} {I0 : jx_I} {m : Nat} {F v a p o t0 c : Nat → Int32} {T S : Nat} (hs : sMd kd R m) (hT : v 1 = nI T) (hS : v 5 = nI S) (hT1 : T ≤ 10000) (hS1 : S ≤ 60) : jx_Ci E l yX6_rate cX6_rate 3 (some .int) 0 n kd R (mI I0 m F v a p o t0 c) [.ref m] (fun r I' => r = rsum v T S T (nI 0) ∧ I' = mI I0 m F v a p o t0 c) := by
  obtain ⟨K0, K1, K2, K3, K4, K5, K6, R0, R1, R2, R4, R6, R10⟩ := id hs
  refine jx_C0.ofJ RX6 [some (.ref m), none, none] (by decide) rfl rfl (Nat.le_of_ble_eq_true rfl) rfl ?_
  refine j_iconst (pc' := 1) (v := nI 0) dX6_rate_0 rfl rfl ?_
  refine j_istore_n (pc' := 2) (lv' := [_, _, _]) dX6_rate_1 rfl (by decide) rfl ?_
  refine j_aload_n (pc' := 3) dX6_rate_2 rfl rfl ?_
  refine j_getR (pc' := 6) f_X6_7 (by assumption) (by assumption) dX6_rate_3 rfl ?_
  refine j_iconst (pc' := 7) (v := nI 1) dX6_rate_6 rfl rfl ?_
  refine j_ialdv (pc' := 8) (by assumption) rfl (by omega) (by omega) (by first | (simp (disch := omega) only [jx_upS, jx_upK, jx_upA, mI_0, mI_1, mI_2, mI_3, mI_4, mI_5, mI_6, pk_us, pk_un, hT, hS]; rfl) | rfl) dX6_rate_7 rfl ?_
  refine j_istore_n (pc' := 9) (lv' := [_, _, _]) dX6_rate_8 rfl (by decide) rfl ?_
  exact lp_X6_rate hs hT hS hT1 hS1 T (nI 0) (Nat.le_refl _)
def fPlant (v : Nat → Int32) (T S : Nat) (x : Int32) : Int32 :=
  if decide (nI 0 ≤ x ∧ x ≤ nI 4) = true then if x = 0 then v 1 else if x = nI 1 then v 2 else if x = nI 2 then v 3 else if x = nI 3 then rsum v T S T (nI 0) else v 8 else -20001

set_option maxRecDepth 100000 in
set_option maxHeartbeats 4000000 in
theorem c_X6_plant {E : jx_E} {l : Launch} {n : Nat} {kd : jx_K} {R : jx_R} {I0 : jx_I} {m : Nat} {F v a p o t c : Nat → Int32} {T S : Nat} {x : Int32} (hs : sMd kd R m) (hT : v 1 = nI T) (hS : v 5 = nI S) (hT1 : T ≤ 10000) (hS1 : S ≤ 60) : jx_Ci E l yX6_plant cX6_plant 2 (some .int) 1 n kd R (mI I0 m F v a p o t c) [.ref m, .int x] (fun r I' => r = fPlant v T S x ∧ I' = mI I0 m F v a p o t c) := by
  obtain ⟨K0, K1, K2, K3, K4, K5, K6, R0, R1, R2, R4, R6, R10⟩ := id hs
  refine jx_C0.ofJ RX6 [some (.ref m), some (.int x)] (by decide) rfl rfl (Nat.le_of_ble_eq_true rfl) rfl ?_
  refine j_iload_n (pc' := 1) dX6_plant_0 rfl rfl ?_
  refine j_iconst (pc' := 2) (v := nI 0) dX6_plant_1 rfl rfl ?_
  refine j_iconst (pc' := 3) (v := nI 4) dX6_plant_2 rfl rfl ?_
  refine j_cSi (pc' := 6) m_X6_32 (c_X6_in E l n kd R _ _ _ _) rfl rfl ⟨Nat.le_of_ble_eq_true rfl, Nat.le_of_ble_eq_true rfl⟩ ⟨Nat.zero_le _, Nat.zero_le _⟩ (Nat.le_of_ble_eq_true rfl) dX6_plant_3 rfl (fun x1 I1 hq => ?_)
  obtain ⟨rfl, rfl⟩ := hq
  first | refine j_if_neB' (tgt := 13) (pc' := 9) (by with_reducible rfl) dX6_plant_6 rfl (by decide) (fun c6 => ?_) (fun c6 => ?_) | refine j_if_neN' (tgt := 13) (pc' := 9) (by with_reducible rfl) (by omega) dX6_plant_6 rfl (by decide) (fun c6 => ?_) (fun c6 => ?_) | refine j_if_ne (tgt := 13) (pc' := 9) dX6_plant_6 rfl (by decide) (fun c6 => ?_) (fun c6 => ?_)
  ·
    refine j_iload_n (pc' := 14) dX6_plant_13 rfl rfl ?_
    first | refine j_if_neB' (tgt := 26) (pc' := 17) (by with_reducible rfl) dX6_plant_14 rfl (by decide) (fun c14 => ?_) (fun c14 => ?_) | refine j_if_neN' (tgt := 26) (pc' := 17) (by with_reducible rfl) (by omega) dX6_plant_14 rfl (by decide) (fun c14 => ?_) (fun c14 => ?_) | refine j_if_ne (tgt := 26) (pc' := 17) dX6_plant_14 rfl (by decide) (fun c14 => ?_) (fun c14 => ?_)
    ·
      refine j_iload_n (pc' := 27) dX6_plant_26 rfl rfl ?_
      refine j_iconst (pc' := 28) (v := nI 1) dX6_plant_27 rfl rfl ?_
      first | refine j_icmp_neN' (tgt := 40) (pc' := 31) (by with_reducible rfl) (by with_reducible rfl) (by omega) (by omega) dX6_plant_28 rfl (by decide) (fun c28 => ?_) (fun c28 => ?_) | refine j_icmp_ne (tgt := 40) (pc' := 31) dX6_plant_28 rfl (by decide) (fun c28 => ?_) (fun c28 => ?_)
      ·
        refine j_iload_n (pc' := 41) dX6_plant_40 rfl rfl ?_
        refine j_iconst (pc' := 42) (v := nI 2) dX6_plant_41 rfl rfl ?_
        first | refine j_icmp_neN' (tgt := 54) (pc' := 45) (by with_reducible rfl) (by with_reducible rfl) (by omega) (by omega) dX6_plant_42 rfl (by decide) (fun c42 => ?_) (fun c42 => ?_) | refine j_icmp_ne (tgt := 54) (pc' := 45) dX6_plant_42 rfl (by decide) (fun c42 => ?_) (fun c42 => ?_)
        ·
          refine j_iload_n (pc' := 55) dX6_plant_54 rfl rfl ?_
          refine j_iconst (pc' := 56) (v := nI 3) dX6_plant_55 rfl rfl ?_
          first | refine j_icmp_neN' (tgt := 66) (pc' := 59) (by with_reducible rfl) (by with_reducible rfl) (by omega) (by omega) dX6_plant_56 rfl (by decide) (fun c56 => ?_) (fun c56 => ?_) | refine j_icmp_ne (tgt := 66) (pc' := 59) dX6_plant_56 rfl (by decide) (fun c56 => ?_) (fun c56 => ?_)
          ·
            refine j_aload_n (pc' := 67) dX6_plant_66 rfl rfl ?_
            refine j_getR (pc' := 70) f_X6_7 (by assumption) (by assumption) dX6_plant_67 rfl ?_
            refine j_bipush (pc' := 72) (v := nI 8) dX6_plant_70 rfl rfl ?_
            refine j_ialdv (pc' := 73) (by assumption) rfl (by omega) (by omega) (by first | (simp (disch := omega) only [jx_upS, jx_upK, jx_upA, mI_0, mI_1, mI_2, mI_3, mI_4, mI_5, mI_6, pk_us, pk_un]; rfl) | rfl) dX6_plant_72 rfl ?_
            refine j_reti dX6_plant_73 rfl (by first | rfl | exact bi_n _) ?_
            refine ⟨?_, rfl⟩
            unfold fPlant
            first | rw [if_pos c6] | rw [if_neg c6] | rw [if_neg (by rw [c6]; decide)]
            first | rw [if_pos c14] | rw [if_neg c14] | rw [if_neg (by rw [c14]; decide)]
            first | rw [if_pos c28] | rw [if_neg c28] | rw [if_neg (by rw [c28]; decide)]
            first | rw [if_pos c42] | rw [if_neg c42] | rw [if_neg (by rw [c42]; decide)]
            first | rw [if_pos c56] | rw [if_neg c56] | rw [if_neg (by rw [c56]; decide)]
          ·
            refine j_aload_n (pc' := 60) dX6_plant_59 rfl rfl ?_
            refine j_cVi (pc' := 63) m_X6_103 (c_X6_rate hs hT hS hT1 hS1) (by assumption) (by decide) rfl rfl rfl ⟨Nat.le_of_ble_eq_true rfl, Nat.le_of_ble_eq_true rfl⟩ ⟨Nat.zero_le _, Nat.zero_le _⟩ (Nat.le_of_ble_eq_true rfl) dX6_plant_60 rfl (fun x1 I1 hq => ?_)
            obtain ⟨rfl, rfl⟩ := hq
            refine j_goto (tgt := 73) dX6_plant_63 (by decide) ?_
            refine j_reti dX6_plant_73 rfl (by first | rfl | exact bi_n _) ?_
            refine ⟨?_, rfl⟩
            unfold fPlant
            first | rw [if_pos c6] | rw [if_neg c6] | rw [if_neg (by rw [c6]; decide)]
            first | rw [if_pos c14] | rw [if_neg c14] | rw [if_neg (by rw [c14]; decide)]
            first | rw [if_pos c28] | rw [if_neg c28] | rw [if_neg (by rw [c28]; decide)]
            first | rw [if_pos c42] | rw [if_neg c42] | rw [if_neg (by rw [c42]; decide)]
            first | rw [if_pos c56] | rw [if_neg c56] | rw [if_neg (by rw [c56]; decide)]
        ·
          refine j_aload_n (pc' := 46) dX6_plant_45 rfl rfl ?_
          refine j_getR (pc' := 49) f_X6_7 (by assumption) (by assumption) dX6_plant_46 rfl ?_
          refine j_iconst (pc' := 50) (v := nI 3) dX6_plant_49 rfl rfl ?_
          refine j_ialdv (pc' := 51) (by assumption) rfl (by omega) (by omega) (by first | (simp (disch := omega) only [jx_upS, jx_upK, jx_upA, mI_0, mI_1, mI_2, mI_3, mI_4, mI_5, mI_6, pk_us, pk_un]; rfl) | rfl) dX6_plant_50 rfl ?_
          refine j_goto (tgt := 73) dX6_plant_51 (by decide) ?_
          refine j_reti dX6_plant_73 rfl (by first | rfl | exact bi_n _) ?_
          refine ⟨?_, rfl⟩
          unfold fPlant
          first | rw [if_pos c6] | rw [if_neg c6] | rw [if_neg (by rw [c6]; decide)]
          first | rw [if_pos c14] | rw [if_neg c14] | rw [if_neg (by rw [c14]; decide)]
          first | rw [if_pos c28] | rw [if_neg c28] | rw [if_neg (by rw [c28]; decide)]
          first | rw [if_pos c42] | rw [if_neg c42] | rw [if_neg (by rw [c42]; decide)]
      ·
        refine j_aload_n (pc' := 32) dX6_plant_31 rfl rfl ?_
        refine j_getR (pc' := 35) f_X6_7 (by assumption) (by assumption) dX6_plant_32 rfl ?_
        refine j_iconst (pc' := 36) (v := nI 2) dX6_plant_35 rfl rfl ?_
        refine j_ialdv (pc' := 37) (by assumption) rfl (by omega) (by omega) (by first | (simp (disch := omega) only [jx_upS, jx_upK, jx_upA, mI_0, mI_1, mI_2, mI_3, mI_4, mI_5, mI_6, pk_us, pk_un]; rfl) | rfl) dX6_plant_36 rfl ?_
        refine j_goto (tgt := 73) dX6_plant_37 (by decide) ?_
        refine j_reti dX6_plant_73 rfl (by first | rfl | exact bi_n _) ?_
        refine ⟨?_, rfl⟩
        unfold fPlant
        first | rw [if_pos c6] | rw [if_neg c6] | rw [if_neg (by rw [c6]; decide)]
        first | rw [if_pos c14] | rw [if_neg c14] | rw [if_neg (by rw [c14]; decide)]
        first | rw [if_pos c28] | rw [if_neg c28] | rw [if_neg (by rw [c28]; decide)]
    ·
      refine j_aload_n (pc' := 18) dX6_plant_17 rfl rfl ?_
      refine j_getR (pc' := 21) f_X6_7 (by assumption) (by assumption) dX6_plant_18 rfl ?_
      refine j_iconst (pc' := 22) (v := nI 1) dX6_plant_21 rfl rfl ?_
      refine j_ialdv (pc' := 23) (by assumption) rfl (by omega) (by omega) (by first | (simp (disch := omega) only [jx_upS, jx_upK, jx_upA, mI_0, mI_1, mI_2, mI_3, mI_4, mI_5, mI_6, pk_us, pk_un]; rfl) | rfl) dX6_plant_22 rfl ?_
      refine j_goto (tgt := 73) dX6_plant_23 (by decide) ?_
      refine j_reti dX6_plant_73 rfl (by first | rfl | exact bi_n _) ?_
      refine ⟨?_, rfl⟩
      unfold fPlant
      first | rw [if_pos c6] | rw [if_neg c6] | rw [if_neg (by rw [c6]; decide)]
      first | rw [if_pos c14] | rw [if_neg c14] | rw [if_neg (by rw [c14]; decide)]
  ·
    refine j_sipush (pc' := 12) (v := -20001) dX6_plant_9 rfl rfl ?_
    refine j_reti dX6_plant_12 rfl (by first | rfl | exact bi_n _) ?_
    refine ⟨?_, rfl⟩
    unfold fPlant
    first | rw [if_pos c6] | rw [if_neg c6] | rw [if_neg (by rw [c6]; decide)]

