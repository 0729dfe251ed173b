theorem in_nat {x : Int32} {a b : Nat} (h : decide (nI a ≤ x ∧ x ≤ nI b) = true) (ha : a < 2147483648) (hb : b < 2147483648) : ∃ j, a ≤ j ∧ j ≤ b ∧ x = nI j := by
  obtain ⟨h1, h2⟩ := of_decide_eq_true h
  have h0 : ¬ x < 0 := fun z => by
    have e1 := Int32.le_iff_toInt_le.mp h1
    have e2 := Int32.lt_iff_toInt_lt.mp z
    rw [nI_toInt ha] at e1
    have : (0 : Int32).toInt = 0 := rfl
    omega
  obtain ⟨j, hj, rfl⟩ := nI_of h0
  exact ⟨j, (nI_leI ha hj).mp h1, (nI_leI hj hb).mp h2, rfl⟩
/-- the place where the climb from z along the roots ends -/
def climb (v : Nat → Int32) (x : Int32) : Nat → Int32 → Int32
  | 0, z => z
  | f + 1, z => if z < 0 then z else if z = x then z else climb v x f (v (176 + 56 * z.toNatClampNeg + 8))
theorem climb_n {v : Nat → Int32} {x z : Int32} {f : Nat} (h : z < 0) : climb v x f z = z := by cases f <;> simp [climb, h]
theorem climb_e {v : Nat → Int32} {x : Int32} {f : Nat} (h : ¬ x < 0) : climb v x (f + 1) x = x := by simp [climb, h]
set_option maxRecDepth 100000 in
set_option maxHeartbeats 4000000 in
theorem lp_X6_setRoot {E : jx_E} {l : Launch} {n : Nat} {kd : jx_K} {R : jx_R} {I0 : jx_I} {m : Nat} {F v a p o t c : Nat → Int32} {Q : jx_Q} {i k : Nat} {y : Int32} {rk : Nat → Nat} (hs : sMd kd R m) (h16 : k ≤ 16) (hrk : RK v k rk) (hi : i < k) : ∀ (f : Nat) (z : Int32), rkUp k rk f z → jx_J E l cX6_setRoot 5 (some .int) RX6 false (jx_rm 2) 0 0 (Q) 0 0 n kd R (mI I0 m F v a p o t c) 47 [some (.ref m), some (.int (nI i)), some (.int y), some (.int (climb v (nI i) f z)), none] [] → jx_J E l cX6_setRoot 5 (some .int) RX6 false (jx_rm 2) 0 0 (Q) 0 0 n kd R (mI I0 m F v a p o t c) 27 [some (.ref m), some (.int (nI i)), some (.int y), some (.int z), none] [] := by
  obtain ⟨K0, K1, K2, K3, K4, K5, K6, R0, R1, R2, R4, R6, R10⟩ := id hs
  intro f
  induction f with
  | zero =>
    intro z hz hx
    obtain rfl : z = -1 := hz.elim id (fun ⟨_, _, _, z⟩ => absurd z (Nat.not_lt_zero _))
    rw [climb_n m1_neg] at hx
    refine j_iload_n (pc' := 28) dX6_setRoot_27 rfl rfl ?_
    first | refine j_if_ltN' (tgt := 47) (pc' := 31) (by with_reducible rfl) (by omega) dX6_setRoot_28 rfl (by decide) (fun c28 => ?_) (fun c28 => ?_) | refine j_if_lt (tgt := 47) (pc' := 31) dX6_setRoot_28 rfl (by decide) (fun c28 => ?_) (fun c28 => ?_)
    ·
      exact hx
    ·
      exact absurd m1_neg c28
  | succ f ih =>
    intro z hz hx
    rcases hz with rfl | ⟨j, hj, rfl, hjr⟩
    · rw [climb_n m1_neg] at hx
      refine j_iload_n (pc' := 28) dX6_setRoot_27 rfl rfl ?_
      first | refine j_if_ltN' (tgt := 47) (pc' := 31) (by with_reducible rfl) (by omega) dX6_setRoot_28 rfl (by decide) (fun c28 => ?_) (fun c28 => ?_) | refine j_if_lt (tgt := 47) (pc' := 31) dX6_setRoot_28 rfl (by decide) (fun c28 => ?_) (fun c28 => ?_)
      ·
        exact hx
      ·
        exact absurd m1_neg c28
    · have hup : rkUp k rk f (v (176 + 56 * j + 8)) := by
        obtain ⟨-, h | ⟨j2, h1, h2, h3⟩⟩ := hrk j hj
        · exact Or.inl h
        · exact Or.inr ⟨j2, h1, h2, by omega⟩
      refine j_iload_n (pc' := 28) dX6_setRoot_27 rfl rfl ?_
      first | refine j_if_ltN' (tgt := 47) (pc' := 31) (by with_reducible rfl) (by omega) dX6_setRoot_28 rfl (by decide) (fun c28 => ?_) (fun c28 => ?_) | refine j_if_lt (tgt := 47) (pc' := 31) dX6_setRoot_28 rfl (by decide) (fun c28 => ?_) (fun c28 => ?_)
      ·
        exact absurd c28 (Nat.not_lt_zero _)
      ·
        refine j_iload_n (pc' := 32) dX6_setRoot_31 rfl rfl ?_
        refine j_iload_n (pc' := 33) dX6_setRoot_32 rfl rfl ?_
        first | refine j_icmp_eqN' (tgt := 47) (pc' := 36) (by with_reducible rfl) (by with_reducible rfl) (by omega) (by omega) dX6_setRoot_33 rfl (by decide) (fun c33 => ?_) (fun c33 => ?_) | refine j_icmp_eq (tgt := 47) (pc' := 36) dX6_setRoot_33 rfl (by decide) (fun c33 => ?_) (fun c33 => ?_)
        ·
          subst c33
          rw [climb_e (nI_pos (by omega))] at hx
          exact hx
        ·
          refine j_aload_n (pc' := 37) dX6_setRoot_36 rfl rfl ?_
          refine j_iload_n (pc' := 38) dX6_setRoot_37 rfl rfl ?_
          refine j_bipush (pc' := 40) (v := nI 8) dX6_setRoot_38 rfl rfl ?_
          refine j_cVi (pc' := 43) m_X6_59 (c_X6_of hs (by omega) (by omega)) (by assumption) (by decide) rfl rfl rfl ⟨Nat.le_of_ble_eq_true rfl, Nat.le_of_ble_eq_true rfl⟩ ⟨Nat.zero_le _, Nat.zero_le _⟩ (Nat.le_of_ble_eq_true rfl) dX6_setRoot_40 rfl (fun x1 I1 hq => ?_)
          obtain ⟨rfl, rfl⟩ := hq
          refine j_istore_n (pc' := 44) (lv' := [_, _, _, _, _]) dX6_setRoot_43 rfl (by decide) rfl ?_
          refine j_goto (tgt := 27) dX6_setRoot_44 (by decide) ?_
          rw [climb, if_neg (nI_pos (by omega)), if_neg (fun z => c33 ((nI_eq (by omega) (by omega)).mp z)), nI_clamp (by omega)] at hx
          exact ih _ hup hx
set_option maxRecDepth 100000 in
set_option maxHeartbeats 4000000 in
theorem c_X6_setRoot {E : jx_E} {l : Launch} {n : Nat} {kd : jx_K} {R : jx_R} {I0 : jx_I} {m : Nat} {F v a p o t c : Nat → Int32} {k q : Nat} {x y : Int32} {rk : Nat → Nat} (hs : sMd kd R m) (hk : v 0 = nI k) (h16 : k ≤ 16) (hc : F 3 = nI q) (hc4 : q ≤ 4) (hrk : RK v k rk) : jx_Ci E l yX6_setRoot cX6_setRoot 5 (some .int) 2 n kd R (mI I0 m F v a p o t c) [.ref m, .int x, .int y] (fun r I' => r = (if okP v x = true ∧ (y = -1 ∨ okP v y = true) then if climb v x 16 y = x then -20002 else v (176 + 56 * x.toNatClampNeg + 8) else -20001) ∧ I' = if (okP v x = true ∧ (y = -1 ∨ okP v y = true)) ∧ ¬ climb v x 16 y = x then mI I0 m (upd F 3 (nI (kpC q))) (upd v (176 + 56 * x.toNatClampNeg + 8) y) a (kpP p q v) o t c else mI I0 m F v a p o t c) := by
  obtain ⟨K0, K1, K2, K3, K4, K5, K6, R0, R1, R2, R4, R6, R10⟩ := id hs
  refine jx_C0.ofJ RX6 [some (.ref m), some (.int x), some (.int y), none, none] (by decide) rfl rfl (Nat.le_of_ble_eq_true rfl) rfl ?_
  refine j_aload_n (pc' := 1) dX6_setRoot_0 rfl rfl ?_
  refine j_iload_n (pc' := 2) dX6_setRoot_1 rfl rfl ?_
  refine j_cVi (pc' := 5) m_X6_52 (c_X6_isPoint hs) (by assumption) (by decide) rfl rfl rfl ⟨Nat.le_of_ble_eq_true rfl, Nat.le_of_ble_eq_true rfl⟩ ⟨Nat.zero_le _, Nat.zero_le _⟩ (Nat.le_of_ble_eq_true rfl) dX6_setRoot_2 rfl (fun x1 I1 hq => ?_)
  obtain ⟨rfl, rfl⟩ := hq
  first | refine j_if_eqB' (tgt := 21) (pc' := 8) (by with_reducible rfl) dX6_setRoot_5 rfl (by decide) (fun c5 => ?_) (fun c5 => ?_) | refine j_if_eqN' (tgt := 21) (pc' := 8) (by with_reducible rfl) (by omega) dX6_setRoot_5 rfl (by decide) (fun c5 => ?_) (fun c5 => ?_) | refine j_if_eq (tgt := 21) (pc' := 8) dX6_setRoot_5 rfl (by decide) (fun c5 => ?_) (fun c5 => ?_)
  ·
    refine j_sipush (pc' := 24) (v := -20001) dX6_setRoot_21 rfl rfl ?_
    refine j_reti dX6_setRoot_24 rfl (by first | rfl | exact bi_n _) ?_
    constructor <;> simp (disch := omega) only [nI_clamp, c5, reduceIte, Bool.false_eq_true, and_true, and_false, true_and, false_and, not_true_eq_false, not_false_eq_true, decide_true, decide_false, eq_self, or_true, or_false, true_or, false_or, ne_eq]
  ·
    refine j_iload_n (pc' := 9) dX6_setRoot_8 rfl rfl ?_
    refine j_iconst (pc' := 10) (v := -1) dX6_setRoot_9 rfl rfl ?_
    first | refine j_icmp_eqN' (tgt := 25) (pc' := 13) (by with_reducible rfl) (by with_reducible rfl) (by omega) (by omega) dX6_setRoot_10 rfl (by decide) (fun c10 => ?_) (fun c10 => ?_) | refine j_icmp_eq (tgt := 25) (pc' := 13) dX6_setRoot_10 rfl (by decide) (fun c10 => ?_) (fun c10 => ?_)
    ·
      have hok := c5
      have hoy : y = -1 ∨ okP v y = true := Or.inl c10
      have hyy : rkUp k rk 16 y := Or.inl c10
      obtain ⟨i, hi, rfl⟩ := okP_nat hk h16 c5
      refine j_iload_n (pc' := 26) dX6_setRoot_25 rfl rfl ?_
      refine j_istore_n (pc' := 27) (lv' := [_, _, _, _, _]) dX6_setRoot_26 rfl (by decide) rfl ?_
      refine lp_X6_setRoot hs h16 hrk hi 16 _ hyy ?_
      refine j_iload_n (pc' := 48) dX6_setRoot_47 rfl rfl ?_
      refine j_iload_n (pc' := 49) dX6_setRoot_48 rfl rfl ?_
      first | refine j_icmp_neN' (tgt := 56) (pc' := 52) (by with_reducible rfl) (by with_reducible rfl) (by omega) (by omega) dX6_setRoot_49 rfl (by decide) (fun c49 => ?_) (fun c49 => ?_) | refine j_icmp_ne (tgt := 56) (pc' := 52) dX6_setRoot_49 rfl (by decide) (fun c49 => ?_) (fun c49 => ?_)
      ·
        refine j_aload_n (pc' := 57) dX6_setRoot_56 rfl rfl ?_
        refine j_aload_n (pc' := 58) dX6_setRoot_57 rfl rfl ?_
        refine j_getR (pc' := 61) f_X6_7 (by assumption) (by assumption) dX6_setRoot_58 rfl ?_
        refine j_cVv (pc' := 64) m_X6_40 (c_X6_keeps (row := v) hs K1 (fun _ _ => mI_1) hc hc4) (by assumption) (by decide) rfl rfl rfl ⟨Nat.le_of_ble_eq_true rfl, Nat.le_of_ble_eq_true rfl⟩ ⟨Nat.zero_le _, Nat.zero_le _⟩ (Nat.le_of_ble_eq_true rfl) dX6_setRoot_61 rfl (fun I1 hq => ?_)
        subst hq
        refine j_aload_n (pc' := 65) dX6_setRoot_64 rfl rfl ?_
        refine j_iload_n (pc' := 66) dX6_setRoot_65 rfl rfl ?_
        refine j_bipush (pc' := 68) (v := nI 8) dX6_setRoot_66 rfl rfl ?_
        refine j_cVi (pc' := 71) m_X6_59 (c_X6_of hs (by omega) (by omega)) (by assumption) (by decide) rfl rfl rfl ⟨Nat.le_of_ble_eq_true rfl, Nat.le_of_ble_eq_true rfl⟩ ⟨Nat.zero_le _, Nat.zero_le _⟩ (Nat.le_of_ble_eq_true rfl) dX6_setRoot_68 rfl (fun x1 I1 hq => ?_)
        obtain ⟨rfl, rfl⟩ := hq
        refine j_istore (pc' := 73) (lv' := [_, _, _, _, _]) dX6_setRoot_71 rfl (by decide) rfl ?_
        refine j_aload_n (pc' := 74) dX6_setRoot_73 rfl rfl ?_
        refine j_iload_n (pc' := 75) dX6_setRoot_74 rfl rfl ?_
        refine j_bipush (pc' := 77) (v := nI 8) dX6_setRoot_75 rfl rfl ?_
        refine j_iload_n (pc' := 78) dX6_setRoot_77 rfl rfl ?_
        refine j_cVv (pc' := 81) m_X6_44 (c_X6_puts hs (by omega) (by omega)) (by assumption) (by decide) rfl rfl rfl ⟨Nat.le_of_ble_eq_true rfl, Nat.le_of_ble_eq_true rfl⟩ ⟨Nat.zero_le _, Nat.zero_le _⟩ (Nat.le_of_ble_eq_true rfl) dX6_setRoot_78 rfl (fun I1 hq => ?_)
        subst hq
        refine j_iload (pc' := 83) dX6_setRoot_81 rfl rfl ?_
        refine j_reti dX6_setRoot_83 rfl (by first | rfl | exact bi_n _) ?_
        constructor <;> simp (disch := omega) only [nI_clamp, hok, hoy, c5, c49, reduceIte, Bool.false_eq_true, and_true, and_false, true_and, false_and, not_true_eq_false, not_false_eq_true, decide_true, decide_false, eq_self, or_true, or_false, true_or, false_or, ne_eq]
      ·
        refine j_sipush (pc' := 55) (v := -20002) dX6_setRoot_52 rfl rfl ?_
        refine j_reti dX6_setRoot_55 rfl (by first | rfl | exact bi_n _) ?_
        constructor <;> simp (disch := omega) only [nI_clamp, hok, hoy, c5, c49, reduceIte, Bool.false_eq_true, and_true, and_false, true_and, false_and, not_true_eq_false, not_false_eq_true, decide_true, decide_false, eq_self, or_true, or_false, true_or, false_or, ne_eq]
    ·
      refine j_aload_n (pc' := 14) dX6_setRoot_13 rfl rfl ?_
      refine j_iload_n (pc' := 15) dX6_setRoot_14 rfl rfl ?_
      refine j_cVi (pc' := 18) m_X6_52 (c_X6_isPoint hs) (by assumption) (by decide) rfl rfl rfl ⟨Nat.le_of_ble_eq_true rfl, Nat.le_of_ble_eq_true rfl⟩ ⟨Nat.zero_le _, Nat.zero_le _⟩ (Nat.le_of_ble_eq_true rfl) dX6_setRoot_15 rfl (fun x1 I1 hq => ?_)
      obtain ⟨rfl, rfl⟩ := hq
      first | refine j_if_neB' (tgt := 25) (pc' := 21) (by with_reducible rfl) dX6_setRoot_18 rfl (by decide) (fun c18 => ?_) (fun c18 => ?_) | refine j_if_neN' (tgt := 25) (pc' := 21) (by with_reducible rfl) (by omega) dX6_setRoot_18 rfl (by decide) (fun c18 => ?_) (fun c18 => ?_) | refine j_if_ne (tgt := 25) (pc' := 21) dX6_setRoot_18 rfl (by decide) (fun c18 => ?_) (fun c18 => ?_)
      ·
        have hok := c5
        have hoy : y = -1 ∨ okP v y = true := Or.inr c18
        have hyy : rkUp k rk 16 y := by
          obtain ⟨j, hj, hjy⟩ := okP_nat hk h16 c18
          exact Or.inr ⟨j, hj, hjy, (hrk j hj).1⟩
        obtain ⟨i, hi, rfl⟩ := okP_nat hk h16 c5
        refine j_iload_n (pc' := 26) dX6_setRoot_25 rfl rfl ?_
        refine j_istore_n (pc' := 27) (lv' := [_, _, _, _, _]) dX6_setRoot_26 rfl (by decide) rfl ?_
        refine lp_X6_setRoot hs h16 hrk hi 16 _ hyy ?_
        refine j_iload_n (pc' := 48) dX6_setRoot_47 rfl rfl ?_
        refine j_iload_n (pc' := 49) dX6_setRoot_48 rfl rfl ?_
        first | refine j_icmp_neN' (tgt := 56) (pc' := 52) (by with_reducible rfl) (by with_reducible rfl) (by omega) (by omega) dX6_setRoot_49 rfl (by decide) (fun c49 => ?_) (fun c49 => ?_) | refine j_icmp_ne (tgt := 56) (pc' := 52) dX6_setRoot_49 rfl (by decide) (fun c49 => ?_) (fun c49 => ?_)
        ·
          refine j_aload_n (pc' := 57) dX6_setRoot_56 rfl rfl ?_
          refine j_aload_n (pc' := 58) dX6_setRoot_57 rfl rfl ?_
          refine j_getR (pc' := 61) f_X6_7 (by assumption) (by assumption) dX6_setRoot_58 rfl ?_
          refine j_cVv (pc' := 64) m_X6_40 (c_X6_keeps (row := v) hs K1 (fun _ _ => mI_1) hc hc4) (by assumption) (by decide) rfl rfl rfl ⟨Nat.le_of_ble_eq_true rfl, Nat.le_of_ble_eq_true rfl⟩ ⟨Nat.zero_le _, Nat.zero_le _⟩ (Nat.le_of_ble_eq_true rfl) dX6_setRoot_61 rfl (fun I1 hq => ?_)
          subst hq
          refine j_aload_n (pc' := 65) dX6_setRoot_64 rfl rfl ?_
          refine j_iload_n (pc' := 66) dX6_setRoot_65 rfl rfl ?_
          refine j_bipush (pc' := 68) (v := nI 8) dX6_setRoot_66 rfl rfl ?_
          refine j_cVi (pc' := 71) m_X6_59 (c_X6_of hs (by omega) (by omega)) (by assumption) (by decide) rfl rfl rfl ⟨Nat.le_of_ble_eq_true rfl, Nat.le_of_ble_eq_true rfl⟩ ⟨Nat.zero_le _, Nat.zero_le _⟩ (Nat.le_of_ble_eq_true rfl) dX6_setRoot_68 rfl (fun x1 I1 hq => ?_)
          obtain ⟨rfl, rfl⟩ := hq
          refine j_istore (pc' := 73) (lv' := [_, _, _, _, _]) dX6_setRoot_71 rfl (by decide) rfl ?_
          refine j_aload_n (pc' := 74) dX6_setRoot_73 rfl rfl ?_
          refine j_iload_n (pc' := 75) dX6_setRoot_74 rfl rfl ?_
          refine j_bipush (pc' := 77) (v := nI 8) dX6_setRoot_75 rfl rfl ?_
          refine j_iload_n (pc' := 78) dX6_setRoot_77 rfl rfl ?_
          refine j_cVv (pc' := 81) m_X6_44 (c_X6_puts hs (by omega) (by omega)) (by assumption) (by decide) rfl rfl rfl ⟨Nat.le_of_ble_eq_true rfl, Nat.le_of_ble_eq_true rfl⟩ ⟨Nat.zero_le _, Nat.zero_le _⟩ (Nat.le_of_ble_eq_true rfl) dX6_setRoot_78 rfl (fun I1 hq => ?_)
          subst hq
          refine j_iload (pc' := 83) dX6_setRoot_81 rfl rfl ?_
          refine j_reti dX6_setRoot_83 rfl (by first | rfl | exact bi_n _) ?_
          constructor <;> simp (disch := omega) only [nI_clamp, hok, hoy, c5, c18, c49, reduceIte, Bool.false_eq_true, and_true, and_false, true_and, false_and, not_true_eq_false, not_false_eq_true, decide_true, decide_false, eq_self, or_true, or_false, true_or, false_or, ne_eq]
        ·
          refine j_sipush (pc' := 55) (v := -20002) dX6_setRoot_52 rfl rfl ?_
          refine j_reti dX6_setRoot_55 rfl (by first | rfl | exact bi_n _) ?_
          constructor <;> simp (disch := omega) only [nI_clamp, hok, hoy, c5, c18, c49, reduceIte, Bool.false_eq_true, and_true, and_false, true_and, false_and, not_true_eq_false, not_false_eq_true, decide_true, decide_false, eq_self, or_true, or_false, true_or, false_or, ne_eq]
      ·
        refine j_sipush (pc' := 24) (v := -20001) dX6_setRoot_21 rfl rfl ?_
        refine j_reti dX6_setRoot_24 rfl (by first | rfl | exact bi_n _) ?_
        constructor <;> simp (disch := omega) only [nI_clamp, c5, c10, c18, reduceIte, Bool.false_eq_true, and_true, and_false, true_and, false_and, not_true_eq_false, not_false_eq_true, decide_true, decide_false, eq_self, or_true, or_false, true_or, false_or, ne_eq]

def fPoint (v : Nat → Int32) (x y : Int32) : Int32 :=
  if okP v x = true then if decide (nI 0 ≤ y ∧ y ≤ nI 15) = true then (if y.toNatClampNeg < 15 then v (176 + 56 * x.toNatClampNeg + y.toNatClampNeg) else sWhy v x.toNatClampNeg) else -20001 else -20001
/-- a number of an event: a places back -/
def evOf (v : Nat → Int32) (N a w : Nat) : Int32 := if a < 30 then if a < N then v (80 + 3 * ((N - 1 - a) % 30) + w) else -20009 else -20009
def fEvent (v : Nat → Int32) (N : Nat) (x y : Int32) : Int32 := if x < 0 then -20001 else if decide (nI 0 ≤ y ∧ y ≤ nI 2) = true then evOf v N x.toNatClampNeg y.toNatClampNeg else -20001
set_option maxRecDepth 100000 in
set_option maxHeartbeats 4000000 in
theorem c_X6_point {E : jx_E} {l : Launch} {n : Nat} {kd : jx_K} {R : jx_R} {I0 : jx_I} {m : Nat} {F v a p o t c : Nat → Int32} {k : Nat} {x y : Int32} {rk : Nat → Nat} (hs : sMd kd R m) (hk : v 0 = nI k) (h16 : k ≤ 16) (hrk : RK v k rk) : jx_Ci E l yX6_point cX6_point 3 (some .int) 4 n kd R (mI I0 m F v a p o t c) [.ref m, .int x, .int y] (fun r I' => r = fPoint v x y ∧ I' = mI I0 m F v a p o t c) := by
  obtain ⟨K0, K1, K2, K3, K4, K5, K6, R0, R1, R2, R4, R6, R10⟩ := id hs
  refine jx_C0.ofJ RX6 [some (.ref m), some (.int x), some (.int y)] (by decide) rfl rfl (Nat.le_of_ble_eq_true rfl) rfl ?_
  refine j_aload_n (pc' := 1) dX6_point_0 rfl rfl ?_
  refine j_iload_n (pc' := 2) dX6_point_1 rfl rfl ?_
  refine j_cVi (pc' := 5) m_X6_52 (c_X6_isPoint hs) (by assumption) (by decide) rfl rfl rfl ⟨Nat.le_of_ble_eq_true rfl, Nat.le_of_ble_eq_true rfl⟩ ⟨Nat.zero_le _, Nat.zero_le _⟩ (Nat.le_of_ble_eq_true rfl) dX6_point_2 rfl (fun x1 I1 hq => ?_)
  obtain ⟨rfl, rfl⟩ := hq
  first | refine j_if_eqB' (tgt := 27) (pc' := 8) (by with_reducible rfl) dX6_point_5 rfl (by decide) (fun c5 => ?_) (fun c5 => ?_) | refine j_if_eqN' (tgt := 27) (pc' := 8) (by with_reducible rfl) (by omega) dX6_point_5 rfl (by decide) (fun c5 => ?_) (fun c5 => ?_) | refine j_if_eq (tgt := 27) (pc' := 8) dX6_point_5 rfl (by decide) (fun c5 => ?_) (fun c5 => ?_)
  ·
    refine j_sipush (pc' := 30) (v := -20001) dX6_point_27 rfl rfl ?_
    refine j_reti dX6_point_30 rfl (by first | rfl | exact bi_n _) ?_
    refine ⟨?_, rfl⟩
    simp (disch := omega) only [fPoint, nI_clamp, c5, reduceIte, Bool.false_eq_true, and_true, and_false, true_and, false_and, not_true_eq_false, not_false_eq_true, decide_true, decide_false, eq_self, or_true, or_false, true_or, false_or, ne_eq]
  ·
    refine j_iload_n (pc' := 9) dX6_point_8 rfl rfl ?_
    refine j_iconst (pc' := 10) (v := nI 0) dX6_point_9 rfl rfl ?_
    refine j_bipush (pc' := 12) (v := nI 15) dX6_point_10 rfl rfl ?_
    refine j_cSi (pc' := 15) m_X6_32 (c_X6_in E l n kd R _ _ _ _) rfl rfl ⟨Nat.le_of_ble_eq_true rfl, Nat.le_of_ble_eq_true rfl⟩ ⟨Nat.zero_le _, Nat.zero_le _⟩ (Nat.le_of_ble_eq_true rfl) dX6_point_12 rfl (fun x1 I1 hq => ?_)
    obtain ⟨rfl, rfl⟩ := hq
    first | refine j_if_eqB' (tgt := 27) (pc' := 18) (by with_reducible rfl) dX6_point_15 rfl (by decide) (fun c15 => ?_) (fun c15 => ?_) | refine j_if_eqN' (tgt := 27) (pc' := 18) (by with_reducible rfl) (by omega) dX6_point_15 rfl (by decide) (fun c15 => ?_) (fun c15 => ?_) | refine j_if_eq (tgt := 27) (pc' := 18) dX6_point_15 rfl (by decide) (fun c15 => ?_) (fun c15 => ?_)
    ·
      refine j_sipush (pc' := 30) (v := -20001) dX6_point_27 rfl rfl ?_
      refine j_reti dX6_point_30 rfl (by first | rfl | exact bi_n _) ?_
      refine ⟨?_, rfl⟩
      simp (disch := omega) only [fPoint, nI_clamp, c5, c15, reduceIte, Bool.false_eq_true, and_true, and_false, true_and, false_and, not_true_eq_false, not_false_eq_true, decide_true, decide_false, eq_self, or_true, or_false, true_or, false_or, ne_eq]
    ·
      have hok := c5
      have hoy := c15
      obtain ⟨i, hi, rfl⟩ := okP_nat hk h16 c5
      obtain ⟨j, hj0, hj, rfl⟩ := in_nat c15 (by omega) (by omega)
      refine j_aload_n (pc' := 19) dX6_point_18 rfl rfl ?_
      refine j_iload_n (pc' := 20) dX6_point_19 rfl rfl ?_
      refine j_iload_n (pc' := 21) dX6_point_20 rfl rfl ?_
      refine j_cVi (pc' := 24) m_X6_87 (c_X6_told hs h16 hrk (by omega) (by omega)) (by assumption) (by decide) rfl rfl rfl ⟨Nat.le_of_ble_eq_true rfl, Nat.le_of_ble_eq_true rfl⟩ ⟨Nat.zero_le _, Nat.zero_le _⟩ (Nat.le_of_ble_eq_true rfl) dX6_point_21 rfl (fun x1 I1 hq => ?_)
      obtain ⟨rfl, rfl⟩ := hq
      refine j_goto (tgt := 30) dX6_point_24 (by decide) ?_
      refine j_reti dX6_point_30 rfl (by first | rfl | exact bi_n _) ?_
      refine ⟨?_, rfl⟩
      simp (disch := omega) only [fPoint, nI_clamp, c5, c15, hok, hoy, reduceIte, Bool.false_eq_true, and_true, and_false, true_and, false_and, not_true_eq_false, not_false_eq_true, decide_true, decide_false, eq_self, or_true, or_false, true_or, false_or, ne_eq]

set_option maxRecDepth 100000 in
set_option maxHeartbeats 4000000 in
theorem c_X6_eventOf {E : jx_E} {l : Launch} {n : Nat} {kd : jx_K} {R : jx_R} {I0 : jx_I} {m : Nat} {F v a p o t c : Nat → Int32} {N a2 w : Nat} (hs : sMd kd R m) (hN : v 9 = nI N) (hNb : N < 2147483000) (hw : w ≤ 2) (ha : a2 < 2147483648) : jx_Ci E l yX6_eventOf cX6_eventOf 3 (some .int) 0 n kd R (mI I0 m F v a p o t c) [.ref m, .int (nI a2), .int (nI w)] (fun r I' => r = evOf v N a2 w ∧ I' = mI I0 m F v a p o t c) := by
  obtain ⟨K0, K1, K2, K3, K4, K5, K6, R0, R1, R2, R4, R6, R10⟩ := id hs
  refine jx_C0.ofJ RX6 [some (.ref m), some (.int (nI a2)), some (.int (nI w))] (by decide) rfl rfl (Nat.le_of_ble_eq_true rfl) rfl ?_
  refine j_iload_n (pc' := 1) dX6_eventOf_0 rfl rfl ?_
  refine j_bipush (pc' := 3) (v := nI 30) dX6_eventOf_1 rfl rfl ?_
  first | refine j_icmp_geN' (tgt := 46) (pc' := 6) (by with_reducible rfl) (by with_reducible rfl) (by omega) (by omega) dX6_eventOf_3 rfl (by decide) (fun c3 => ?_) (fun c3 => ?_) | refine j_icmp_ge (tgt := 46) (pc' := 6) dX6_eventOf_3 rfl (by decide) (fun c3 => ?_) (fun c3 => ?_)
  ·
    refine j_sipush (pc' := 49) (v := -20009) dX6_eventOf_46 rfl rfl ?_
    refine j_reti dX6_eventOf_49 rfl (by first | rfl | exact bi_n _) ?_
    refine ⟨?_, rfl⟩
    simp (disch := omega) only [evOf, if_pos, if_neg]
  ·
    refine j_iload_n (pc' := 7) dX6_eventOf_6 rfl rfl ?_
    refine j_aload_n (pc' := 8) dX6_eventOf_7 rfl rfl ?_
    refine j_getR (pc' := 11) f_X6_7 (by assumption) (by assumption) dX6_eventOf_8 rfl ?_
    refine j_bipush (pc' := 13) (v := nI 9) dX6_eventOf_11 rfl rfl ?_
    refine j_ialdv (pc' := 14) (by assumption) rfl (by omega) (by omega) (by first | (simp (disch := omega) only [jx_upS, jx_upK, jx_upA, mI_0, mI_1, mI_2, mI_3, mI_4, mI_5, mI_6, pk_us, pk_un, hN]; rfl) | rfl) dX6_eventOf_13 rfl ?_
    first | refine j_icmp_geN' (tgt := 46) (pc' := 17) (by with_reducible rfl) (by with_reducible rfl) (by omega) (by omega) dX6_eventOf_14 rfl (by decide) (fun c14 => ?_) (fun c14 => ?_) | refine j_icmp_ge (tgt := 46) (pc' := 17) dX6_eventOf_14 rfl (by decide) (fun c14 => ?_) (fun c14 => ?_)
    ·
      refine j_sipush (pc' := 49) (v := -20009) dX6_eventOf_46 rfl rfl ?_
      refine j_reti dX6_eventOf_49 rfl (by first | rfl | exact bi_n _) ?_
      refine ⟨?_, rfl⟩
      simp (disch := omega) only [evOf, if_pos, if_neg]
    ·
      refine j_aload_n (pc' := 18) dX6_eventOf_17 rfl rfl ?_
      refine j_getR (pc' := 21) f_X6_7 (by assumption) (by assumption) dX6_eventOf_18 rfl ?_
      refine j_bipush (pc' := 23) (v := nI 80) dX6_eventOf_21 rfl rfl ?_
      refine j_iconst (pc' := 24) (v := nI 3) dX6_eventOf_23 rfl rfl ?_
      refine j_aload_n (pc' := 25) dX6_eventOf_24 rfl rfl ?_
      refine j_getR (pc' := 28) f_X6_7 (by assumption) (by assumption) dX6_eventOf_25 rfl ?_
      refine j_bipush (pc' := 30) (v := nI 9) dX6_eventOf_28 rfl rfl ?_
      refine j_ialdv (pc' := 31) (by assumption) rfl (by omega) (by omega) (by first | (simp (disch := omega) only [jx_upS, jx_upK, jx_upA, mI_0, mI_1, mI_2, mI_3, mI_4, mI_5, mI_6, pk_us, pk_un, hN]; rfl) | rfl) dX6_eventOf_30 rfl ?_
      refine j_iconst (pc' := 32) (v := nI 1) dX6_eventOf_31 rfl rfl ?_
      first | refine j_isubN' (pc' := 33) (by with_reducible rfl) (by with_reducible rfl) (by omega) dX6_eventOf_32 rfl ?_ | refine j_isub (pc' := 33) dX6_eventOf_32 rfl ?_
      refine j_iload_n (pc' := 34) dX6_eventOf_33 rfl rfl ?_
      first | refine j_isubN' (pc' := 35) (by with_reducible rfl) (by with_reducible rfl) (by omega) dX6_eventOf_34 rfl ?_ | refine j_isub (pc' := 35) dX6_eventOf_34 rfl ?_
      refine j_bipush (pc' := 37) (v := nI 30) dX6_eventOf_35 rfl rfl ?_
      refine j_iremN' (pc' := 38) (by with_reducible rfl) (by with_reducible rfl) (by omega) (by omega) (by omega) dX6_eventOf_37 rfl ?_
      first | refine j_imulN' (pc' := 39) (by with_reducible rfl) (by with_reducible rfl) dX6_eventOf_38 rfl ?_ | refine j_imul (pc' := 39) dX6_eventOf_38 rfl ?_
      first | refine j_iaddN' (pc' := 40) (by with_reducible rfl) (by with_reducible rfl) dX6_eventOf_39 rfl ?_ | refine j_iadd (pc' := 40) dX6_eventOf_39 rfl ?_
      refine j_iload_n (pc' := 41) dX6_eventOf_40 rfl rfl ?_
      first | refine j_iaddN' (pc' := 42) (by with_reducible rfl) (by with_reducible rfl) dX6_eventOf_41 rfl ?_ | refine j_iadd (pc' := 42) dX6_eventOf_41 rfl ?_
      refine j_ialdv (pc' := 43) (by assumption) rfl (by omega) (by omega) (by first | (simp (disch := omega) only [jx_upS, jx_upK, jx_upA, mI_0, mI_1, mI_2, mI_3, mI_4, mI_5, mI_6, pk_us, pk_un, hN]; rfl) | rfl) dX6_eventOf_42 rfl ?_
      refine j_goto (tgt := 49) dX6_eventOf_43 (by decide) ?_
      refine j_reti dX6_eventOf_49 rfl (by first | rfl | exact bi_n _) ?_
      refine ⟨?_, rfl⟩
      simp (disch := omega) only [evOf, if_pos, if_neg]

