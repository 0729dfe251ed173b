/-- the roots above x: is one in alarm (fuel first) -/
def anyUp (v : Nat → Int32) : Nat → Int32 → Bool → Bool
  | 0, _, b => b
  | f + 1, x, b => if x < 0 then b else anyUp v f (v (176 + 56 * x.toNatClampNeg + 8)) (b || decide (v (176 + 56 * x.toNatClampNeg + 9) = nI 1))
theorem anyUp_n (v : Nat → Int32) (f : Nat) (x : Int32) (b : Bool) (h : x < 0) : anyUp v f x b = b := by cases f <;> simp [anyUp, h]
/-- the roots have an order -/
def RK (v : Nat → Int32) (k : Nat) (rk : Nat → Nat) : Prop := ∀ i, i < k → rk i < 16 ∧ (v (176 + 56 * i + 8) = -1 ∨ ∃ j, j < k ∧ v (176 + 56 * i + 8) = nI j ∧ rk j < rk i)
def rkUp (k : Nat) (rk : Nat → Nat) (f : Nat) (x : Int32) : Prop := x = -1 ∨ ∃ j, j < k ∧ x = nI j ∧ rk j < f
theorem m1_neg : (-1 : Int32) < 0 := by decide
set_option maxRecDepth 100000 in
set_option maxHeartbeats 4000000 in
theorem lp_X6_hasRoot {E : jx_E} {l : Launch} {n : Nat} {kd : jx_K} {R : jx_R} {I0 : jx_I} {m : Nat} {F v a p o t c : Nat → Int32} {i k : Nat} {rk : Nat → Nat} (hs : sMd kd R m) (h16 : k ≤ 16) (hrk : RK v k rk) : ∀ (f : Nat) (x z : Int32) (b : Bool), z = bi b → rkUp k rk f x → jx_J E l cX6_hasRoot 4 (some .boolean) RX6 false (jx_rm 1) 0 0 (jx_Q0 n kd R (jx_Pi (fun r I' => r = bi (anyUp v f x b) ∧ I' = mI I0 m F v a p o t c))) 0 0 n kd R (mI I0 m F v a p o t c) 10 [some (.ref m), some (.int (nI i)), some (.int z), some (.int x)] [] := by
  obtain ⟨K0, K1, K2, K3, K4, K5, K6, R0, R1, R2, R4, R6, R10⟩ := id hs
  intro f
  induction f with
  | zero =>
    intro x z b hz hx
    subst hz
    obtain rfl : x = -1 := hx.elim id (fun ⟨_, _, _, z⟩ => absurd z (Nat.not_lt_zero _))
    refine j_iload_n (pc' := 11) dX6_hasRoot_10 rfl rfl ?_
    first | refine j_if_ltN' (tgt := 46) (pc' := 14) (by with_reducible rfl) (by omega) dX6_hasRoot_11 rfl (by decide) (fun c11 => ?_) (fun c11 => ?_) | refine j_if_lt (tgt := 46) (pc' := 14) dX6_hasRoot_11 rfl (by decide) (fun c11 => ?_) (fun c11 => ?_)
    ·
      refine j_iload_n (pc' := 47) dX6_hasRoot_46 rfl rfl ?_
      refine j_reti dX6_hasRoot_47 rfl (by first | rfl | exact bi_n _) ?_
      exact ⟨by rw [anyUp_n v _ _ _ m1_neg], rfl⟩
    ·
      exact absurd m1_neg c11
  | succ f ih =>
    intro x z b hz hx
    subst hz
    rcases hx with rfl | ⟨j, hj, rfl, hjr⟩
    · skip
      refine j_iload_n (pc' := 11) dX6_hasRoot_10 rfl rfl ?_
      first | refine j_if_ltN' (tgt := 46) (pc' := 14) (by with_reducible rfl) (by omega) dX6_hasRoot_11 rfl (by decide) (fun c11 => ?_) (fun c11 => ?_) | refine j_if_lt (tgt := 46) (pc' := 14) dX6_hasRoot_11 rfl (by decide) (fun c11 => ?_) (fun c11 => ?_)
      ·
        refine j_iload_n (pc' := 47) dX6_hasRoot_46 rfl rfl ?_
        refine j_reti dX6_hasRoot_47 rfl (by first | rfl | exact bi_n _) ?_
        exact ⟨by rw [anyUp_n v _ _ _ m1_neg], rfl⟩
      ·
        exact absurd m1_neg c11
    · have hup : rkUp k rk f (v (176 + 56 * j + 8)) := by
        obtain ⟨-, h | ⟨j2, h1, h2, h3⟩⟩ := hrk j hj
        · exact Or.inl h
        · exact Or.inr ⟨j2, h1, h2, by omega⟩
      have hst : anyUp v (f + 1) (nI j) b = anyUp v f (v (176 + 56 * j + 8)) (b || decide (v (176 + 56 * j + 9) = nI 1)) := by
        rw [anyUp, if_neg (nI_pos (by omega)), nI_clamp (by omega)]
      rw [hst]
      refine j_iload_n (pc' := 11) dX6_hasRoot_10 rfl rfl ?_
      first | refine j_if_ltN' (tgt := 46) (pc' := 14) (by with_reducible rfl) (by omega) dX6_hasRoot_11 rfl (by decide) (fun c11 => ?_) (fun c11 => ?_) | refine j_if_lt (tgt := 46) (pc' := 14) dX6_hasRoot_11 rfl (by decide) (fun c11 => ?_) (fun c11 => ?_)
      ·
        exact absurd c11 (Nat.not_lt_zero _)
      ·
        refine j_iload_n (pc' := 15) dX6_hasRoot_14 rfl rfl ?_
        first | refine j_if_neB' (tgt := 29) (pc' := 18) (by with_reducible rfl) dX6_hasRoot_15 rfl (by decide) (fun c15 => ?_) (fun c15 => ?_) | refine j_if_neN' (tgt := 29) (pc' := 18) (by with_reducible rfl) (by omega) dX6_hasRoot_15 rfl (by decide) (fun c15 => ?_) (fun c15 => ?_) | refine j_if_ne (tgt := 29) (pc' := 18) dX6_hasRoot_15 rfl (by decide) (fun c15 => ?_) (fun c15 => ?_)
        ·
          refine j_iconst (pc' := 30) (v := nI 1) dX6_hasRoot_29 rfl rfl ?_
          refine j_goto (tgt := 34) dX6_hasRoot_30 (by decide) ?_
          refine j_istore_n (pc' := 35) (lv' := [_, _, _, _]) dX6_hasRoot_34 rfl (by decide) rfl ?_
          refine j_aload_n (pc' := 36) dX6_hasRoot_35 rfl rfl ?_
          refine j_iload_n (pc' := 37) dX6_hasRoot_36 rfl rfl ?_
          refine j_bipush (pc' := 39) (v := nI 8) dX6_hasRoot_37 rfl rfl ?_
          refine j_cVi (pc' := 42) m_X6_59 (c_X6_of hs (by omega) (by omega)) (by assumption) (by decide) rfl rfl rfl ⟨Nat.le_of_ble_eq_true rfl, Nat.le_of_ble_eq_true rfl⟩ ⟨Nat.zero_le _, Nat.zero_le _⟩ (Nat.le_of_ble_eq_true rfl) dX6_hasRoot_39 rfl (fun x1 I1 hq => ?_)
          obtain ⟨rfl, rfl⟩ := hq
          refine j_istore_n (pc' := 43) (lv' := [_, _, _, _]) dX6_hasRoot_42 rfl (by decide) rfl ?_
          refine j_goto (tgt := 10) dX6_hasRoot_43 (by decide) ?_
          exact ih _ _ _ (by first | (refine bi_T ?_; simp [c15]; done) | (refine bi_F ?_; simp [c15]; done)) hup
        ·
          refine j_aload_n (pc' := 19) dX6_hasRoot_18 rfl rfl ?_
          refine j_iload_n (pc' := 20) dX6_hasRoot_19 rfl rfl ?_
          refine j_bipush (pc' := 22) (v := nI 9) dX6_hasRoot_20 rfl rfl ?_
          refine j_cVi (pc' := 25) m_X6_59 (c_X6_of hs (by omega) (by omega)) (by assumption) (by decide) rfl rfl rfl ⟨Nat.le_of_ble_eq_true rfl, Nat.le_of_ble_eq_true rfl⟩ ⟨Nat.zero_le _, Nat.zero_le _⟩ (Nat.le_of_ble_eq_true rfl) dX6_hasRoot_22 rfl (fun x1 I1 hq => ?_)
          obtain ⟨rfl, rfl⟩ := hq
          refine j_iconst (pc' := 26) (v := nI 1) dX6_hasRoot_25 rfl rfl ?_
          first | refine j_icmp_neN' (tgt := 33) (pc' := 29) (by with_reducible rfl) (by with_reducible rfl) (by omega) (by omega) dX6_hasRoot_26 rfl (by decide) (fun c26 => ?_) (fun c26 => ?_) | refine j_icmp_ne (tgt := 33) (pc' := 29) dX6_hasRoot_26 rfl (by decide) (fun c26 => ?_) (fun c26 => ?_)
          ·
            refine j_iconst (pc' := 34) (v := nI 0) dX6_hasRoot_33 rfl rfl ?_
            refine j_istore_n (pc' := 35) (lv' := [_, _, _, _]) dX6_hasRoot_34 rfl (by decide) rfl ?_
            refine j_aload_n (pc' := 36) dX6_hasRoot_35 rfl rfl ?_
            refine j_iload_n (pc' := 37) dX6_hasRoot_36 rfl rfl ?_
            refine j_bipush (pc' := 39) (v := nI 8) dX6_hasRoot_37 rfl rfl ?_
            refine j_cVi (pc' := 42) m_X6_59 (c_X6_of hs (by omega) (by omega)) (by assumption) (by decide) rfl rfl rfl ⟨Nat.le_of_ble_eq_true rfl, Nat.le_of_ble_eq_true rfl⟩ ⟨Nat.zero_le _, Nat.zero_le _⟩ (Nat.le_of_ble_eq_true rfl) dX6_hasRoot_39 rfl (fun x1 I1 hq => ?_)
            obtain ⟨rfl, rfl⟩ := hq
            refine j_istore_n (pc' := 43) (lv' := [_, _, _, _]) dX6_hasRoot_42 rfl (by decide) rfl ?_
            refine j_goto (tgt := 10) dX6_hasRoot_43 (by decide) ?_
            exact ih _ _ _ (by first | (refine bi_T ?_; simp [c15, c26]; done) | (refine bi_F ?_; simp [c15, c26]; done)) hup
          ·
            refine j_iconst (pc' := 30) (v := nI 1) dX6_hasRoot_29 rfl rfl ?_
            refine j_goto (tgt := 34) dX6_hasRoot_30 (by decide) ?_
            refine j_istore_n (pc' := 35) (lv' := [_, _, _, _]) dX6_hasRoot_34 rfl (by decide) rfl ?_
            refine j_aload_n (pc' := 36) dX6_hasRoot_35 rfl rfl ?_
            refine j_iload_n (pc' := 37) dX6_hasRoot_36 rfl rfl ?_
            refine j_bipush (pc' := 39) (v := nI 8) dX6_hasRoot_37 rfl rfl ?_
            refine j_cVi (pc' := 42) m_X6_59 (c_X6_of hs (by omega) (by omega)) (by assumption) (by decide) rfl rfl rfl ⟨Nat.le_of_ble_eq_true rfl, Nat.le_of_ble_eq_true rfl⟩ ⟨Nat.zero_le _, Nat.zero_le _⟩ (Nat.le_of_ble_eq_true rfl) dX6_hasRoot_39 rfl (fun x1 I1 hq => ?_)
            obtain ⟨rfl, rfl⟩ := hq
            refine j_istore_n (pc' := 43) (lv' := [_, _, _, _]) dX6_hasRoot_42 rfl (by decide) rfl ?_
            refine j_goto (tgt := 10) dX6_hasRoot_43 (by decide) ?_
            exact ih _ _ _ (by first | (refine bi_T ?_; simp [c15, c26]; done) | (refine bi_F ?_; simp [c15, c26]; done)) hup
set_option maxRecDepth 100000 in
set_option maxHeartbeats 4000000 in
theorem c_X6_hasRoot {E : jx_E} {l : Launch} {n : Nat} {kd : jx_K} {R : jx_R} {I0 : jx_I} {m : Nat} {F v a p o t c : Nat → Int32} {i k : Nat} {rk : Nat → Nat} (hs : sMd kd R m) (h16 : k ≤ 16) (hrk : RK v k rk) (hi : i < k) : jx_Ci E l yX6_hasRoot cX6_hasRoot 4 (some .boolean) 1 n kd R (mI I0 m F v a p o t c) [.ref m, .int (nI i)] (fun r I' => r = bi (anyUp v 16 (v (176 + 56 * i + 8)) false) ∧ I' = mI I0 m F v a p o t c) := by
  obtain ⟨K0, K1, K2, K3, K4, K5, K6, R0, R1, R2, R4, R6, R10⟩ := id hs
  have hup : rkUp k rk 16 (v (176 + 56 * i + 8)) := by
    obtain ⟨h0, h | ⟨j2, h1, h2, h3⟩⟩ := hrk i hi
    · exact Or.inl h
    · exact Or.inr ⟨j2, h1, h2, by omega⟩
  refine jx_C0.ofJ RX6 [some (.ref m), some (.int (nI i)), none, none] (by decide) rfl rfl (Nat.le_of_ble_eq_true rfl) rfl ?_
  refine j_iconst (pc' := 1) (v := nI 0) dX6_hasRoot_0 rfl rfl ?_
  refine j_istore_n (pc' := 2) (lv' := [_, _, _, _]) dX6_hasRoot_1 rfl (by decide) rfl ?_
  refine j_aload_n (pc' := 3) dX6_hasRoot_2 rfl rfl ?_
  refine j_iload_n (pc' := 4) dX6_hasRoot_3 rfl rfl ?_
  refine j_bipush (pc' := 6) (v := nI 8) dX6_hasRoot_4 rfl rfl ?_
  refine j_cVi (pc' := 9) m_X6_59 (c_X6_of hs (by omega) (by omega)) (by assumption) (by decide) rfl rfl rfl ⟨Nat.le_of_ble_eq_true rfl, Nat.le_of_ble_eq_true rfl⟩ ⟨Nat.zero_le _, Nat.zero_le _⟩ (Nat.le_of_ble_eq_true rfl) dX6_hasRoot_6 rfl (fun x1 I1 hq => ?_)
  obtain ⟨rfl, rfl⟩ := hq
  refine j_istore_n (pc' := 10) (lv' := [_, _, _, _]) dX6_hasRoot_9 rfl (by decide) rfl ?_
  exact lp_X6_hasRoot hs h16 hrk 16 _ _ false rfl hup
def sStand (v : Nat → Int32) (i : Nat) : Bool := decide (v (176 + 56 * i + 9) = nI 1) || decide (v (176 + 56 * i + 10) = 0)
def sWhy (v : Nat → Int32) (i : Nat) : Int32 :=
  if sStand v i = true then
    if v (176 + 56 * i + 13) ≤ 0 then
      if v (176 + 56 * i + 5) = nI 1 then nI 0
      else if (v (176 + 56 * i + 6) >>> (v 2 &&& 31)) &&& nI 1 = nI 1 then nI 2
      else if anyUp v 16 (v (176 + 56 * i + 8)) false = true then nI 3
      else if v 3 = nI 1 then
        if v (176 + 56 * i + 12) < v 4 then nI 0
        else if v (176 + 56 * i + 5) ≤ nI 2 then nI 0 else nI 4
      else nI 0
    else nI 1
  else (-20009)
set_option maxRecDepth 100000 in
set_option maxHeartbeats 4000000 in
theorem c_X6_why {E : jx_E} {l : Launch} {n : Nat} {kd : jx_K} {R : jx_R} {I0 : jx_I} {m : Nat} {F v a p o t c : Nat → Int32} {i k : Nat} {rk : Nat → Nat} (hs : sMd kd R m) (h16 : k ≤ 16) (hrk : RK v k rk) (hi : i < k) : jx_Ci E l yX6_why cX6_why 2 (some .int) 2 n kd R (mI I0 m F v a p o t c) [.ref m, .int (nI i)] (fun r I' => r = sWhy v i ∧ I' = mI I0 m F v a p o t c) := by
  obtain ⟨K0, K1, K2, K3, K4, K5, K6, R0, R1, R2, R4, R6, R10⟩ := id hs
  refine jx_C0.ofJ RX6 [some (.ref m), some (.int (nI i))] (by decide) rfl rfl (Nat.le_of_ble_eq_true rfl) rfl ?_
  refine j_aload_n (pc' := 1) dX6_why_0 rfl rfl ?_
  refine j_iload_n (pc' := 2) dX6_why_1 rfl rfl ?_
  refine j_cVi (pc' := 5) m_X6_78 (c_X6_stands hs (by omega)) (by assumption) (by decide) rfl rfl rfl ⟨Nat.le_of_ble_eq_true rfl, Nat.le_of_ble_eq_true rfl⟩ ⟨Nat.zero_le _, Nat.zero_le _⟩ (Nat.le_of_ble_eq_true rfl) dX6_why_2 rfl (fun x1 I1 hq => ?_)
  obtain ⟨rfl, rfl⟩ := hq
  first | refine j_if_neB' (tgt := 12) (pc' := 8) (by with_reducible rfl) dX6_why_5 rfl (by decide) (fun c5 => ?_) (fun c5 => ?_) | refine j_if_neN' (tgt := 12) (pc' := 8) (by with_reducible rfl) (by omega) dX6_why_5 rfl (by decide) (fun c5 => ?_) (fun c5 => ?_) | refine j_if_ne (tgt := 12) (pc' := 8) dX6_why_5 rfl (by decide) (fun c5 => ?_) (fun c5 => ?_)
  ·
    refine j_aload_n (pc' := 13) dX6_why_12 rfl rfl ?_
    refine j_iload_n (pc' := 14) dX6_why_13 rfl rfl ?_
    refine j_bipush (pc' := 16) (v := nI 13) dX6_why_14 rfl rfl ?_
    refine j_cVi (pc' := 19) m_X6_59 (c_X6_of hs (by omega) (by omega)) (by assumption) (by decide) rfl rfl rfl ⟨Nat.le_of_ble_eq_true rfl, Nat.le_of_ble_eq_true rfl⟩ ⟨Nat.zero_le _, Nat.zero_le _⟩ (Nat.le_of_ble_eq_true rfl) dX6_why_16 rfl (fun x1 I1 hq => ?_)
    obtain ⟨rfl, rfl⟩ := hq
    first | refine j_if_leN' (tgt := 24) (pc' := 22) (by with_reducible rfl) (by omega) dX6_why_19 rfl (by decide) (fun c19 => ?_) (fun c19 => ?_) | refine j_if_le (tgt := 24) (pc' := 22) dX6_why_19 rfl (by decide) (fun c19 => ?_) (fun c19 => ?_)
    ·
      refine j_aload_n (pc' := 25) dX6_why_24 rfl rfl ?_
      refine j_iload_n (pc' := 26) dX6_why_25 rfl rfl ?_
      refine j_iconst (pc' := 27) (v := nI 5) dX6_why_26 rfl rfl ?_
      refine j_cVi (pc' := 30) m_X6_59 (c_X6_of hs (by omega) (by omega)) (by assumption) (by decide) rfl rfl rfl ⟨Nat.le_of_ble_eq_true rfl, Nat.le_of_ble_eq_true rfl⟩ ⟨Nat.zero_le _, Nat.zero_le _⟩ (Nat.le_of_ble_eq_true rfl) dX6_why_27 rfl (fun x1 I1 hq => ?_)
      obtain ⟨rfl, rfl⟩ := hq
      refine j_iconst (pc' := 31) (v := nI 1) dX6_why_30 rfl rfl ?_
      first | refine j_icmp_neN' (tgt := 36) (pc' := 34) (by with_reducible rfl) (by with_reducible rfl) (by omega) (by omega) dX6_why_31 rfl (by decide) (fun c31 => ?_) (fun c31 => ?_) | refine j_icmp_ne (tgt := 36) (pc' := 34) dX6_why_31 rfl (by decide) (fun c31 => ?_) (fun c31 => ?_)
      ·
        refine j_aload_n (pc' := 37) dX6_why_36 rfl rfl ?_
        refine j_iload_n (pc' := 38) dX6_why_37 rfl rfl ?_
        refine j_bipush (pc' := 40) (v := nI 6) dX6_why_38 rfl rfl ?_
        refine j_cVi (pc' := 43) m_X6_59 (c_X6_of hs (by omega) (by omega)) (by assumption) (by decide) rfl rfl rfl ⟨Nat.le_of_ble_eq_true rfl, Nat.le_of_ble_eq_true rfl⟩ ⟨Nat.zero_le _, Nat.zero_le _⟩ (Nat.le_of_ble_eq_true rfl) dX6_why_40 rfl (fun x1 I1 hq => ?_)
        obtain ⟨rfl, rfl⟩ := hq
        refine j_aload_n (pc' := 44) dX6_why_43 rfl rfl ?_
        refine j_getR (pc' := 47) f_X6_7 (by assumption) (by assumption) dX6_why_44 rfl ?_
        refine j_iconst (pc' := 48) (v := nI 2) dX6_why_47 rfl rfl ?_
        refine j_ialdv (pc' := 49) (by assumption) rfl (by omega) (by omega) (by first | (simp (disch := omega) only [jx_upS, jx_upK, jx_upA, mI_0, mI_1, mI_2, mI_3, mI_4, mI_5, mI_6, pk_us, pk_un]; rfl) | rfl) dX6_why_48 rfl ?_
        refine j_ishr (pc' := 50) dX6_why_49 rfl ?_
        refine j_iconst (pc' := 51) (v := nI 1) dX6_why_50 rfl rfl ?_
        refine j_iand (pc' := 52) dX6_why_51 rfl ?_
        refine j_iconst (pc' := 53) (v := nI 1) dX6_why_52 rfl rfl ?_
        first | refine j_icmp_neN' (tgt := 58) (pc' := 56) (by with_reducible rfl) (by with_reducible rfl) (by omega) (by omega) dX6_why_53 rfl (by decide) (fun c53 => ?_) (fun c53 => ?_) | refine j_icmp_ne (tgt := 58) (pc' := 56) dX6_why_53 rfl (by decide) (fun c53 => ?_) (fun c53 => ?_)
        ·
          refine j_aload_n (pc' := 59) dX6_why_58 rfl rfl ?_
          refine j_iload_n (pc' := 60) dX6_why_59 rfl rfl ?_
          refine j_cVi (pc' := 63) m_X6_81 (c_X6_hasRoot hs h16 hrk (by omega)) (by assumption) (by decide) rfl rfl rfl ⟨Nat.le_of_ble_eq_true rfl, Nat.le_of_ble_eq_true rfl⟩ ⟨Nat.zero_le _, Nat.zero_le _⟩ (Nat.le_of_ble_eq_true rfl) dX6_why_60 rfl (fun x1 I1 hq => ?_)
          obtain ⟨rfl, rfl⟩ := hq
          first | refine j_if_eqB' (tgt := 70) (pc' := 66) (by with_reducible rfl) dX6_why_63 rfl (by decide) (fun c63 => ?_) (fun c63 => ?_) | refine j_if_eqN' (tgt := 70) (pc' := 66) (by with_reducible rfl) (by omega) dX6_why_63 rfl (by decide) (fun c63 => ?_) (fun c63 => ?_) | refine j_if_eq (tgt := 70) (pc' := 66) dX6_why_63 rfl (by decide) (fun c63 => ?_) (fun c63 => ?_)
          ·
            refine j_aload_n (pc' := 71) dX6_why_70 rfl rfl ?_
            refine j_getR (pc' := 74) f_X6_7 (by assumption) (by assumption) dX6_why_71 rfl ?_
            refine j_iconst (pc' := 75) (v := nI 3) dX6_why_74 rfl rfl ?_
            refine j_ialdv (pc' := 76) (by assumption) rfl (by omega) (by omega) (by first | (simp (disch := omega) only [jx_upS, jx_upK, jx_upA, mI_0, mI_1, mI_2, mI_3, mI_4, mI_5, mI_6, pk_us, pk_un]; rfl) | rfl) dX6_why_75 rfl ?_
            refine j_iconst (pc' := 77) (v := nI 1) dX6_why_76 rfl rfl ?_
            first | refine j_icmp_neN' (tgt := 110) (pc' := 80) (by with_reducible rfl) (by with_reducible rfl) (by omega) (by omega) dX6_why_77 rfl (by decide) (fun c77 => ?_) (fun c77 => ?_) | refine j_icmp_ne (tgt := 110) (pc' := 80) dX6_why_77 rfl (by decide) (fun c77 => ?_) (fun c77 => ?_)
            ·
              refine j_iconst (pc' := 111) (v := nI 0) dX6_why_110 rfl rfl ?_
              refine j_reti dX6_why_111 rfl (by first | rfl | exact bi_n _) ?_
              refine ⟨?_, rfl⟩
              simp (disch := omega) only [sWhy, sStand, nI_clamp, c5, c19, c31, c53, c63, c77, reduceIte, Bool.false_eq_true, eq_self]
            ·
              refine j_aload_n (pc' := 81) dX6_why_80 rfl rfl ?_
              refine j_iload_n (pc' := 82) dX6_why_81 rfl rfl ?_
              refine j_bipush (pc' := 84) (v := nI 12) dX6_why_82 rfl rfl ?_
              refine j_cVi (pc' := 87) m_X6_59 (c_X6_of hs (by omega) (by omega)) (by assumption) (by decide) rfl rfl rfl ⟨Nat.le_of_ble_eq_true rfl, Nat.le_of_ble_eq_true rfl⟩ ⟨Nat.zero_le _, Nat.zero_le _⟩ (Nat.le_of_ble_eq_true rfl) dX6_why_84 rfl (fun x1 I1 hq => ?_)
              obtain ⟨rfl, rfl⟩ := hq
              refine j_aload_n (pc' := 88) dX6_why_87 rfl rfl ?_
              refine j_getR (pc' := 91) f_X6_7 (by assumption) (by assumption) dX6_why_88 rfl ?_
              refine j_iconst (pc' := 92) (v := nI 4) dX6_why_91 rfl rfl ?_
              refine j_ialdv (pc' := 93) (by assumption) rfl (by omega) (by omega) (by first | (simp (disch := omega) only [jx_upS, jx_upK, jx_upA, mI_0, mI_1, mI_2, mI_3, mI_4, mI_5, mI_6, pk_us, pk_un]; rfl) | rfl) dX6_why_92 rfl ?_
              first | refine j_icmp_ltN' (tgt := 110) (pc' := 96) (by with_reducible rfl) (by with_reducible rfl) (by omega) (by omega) dX6_why_93 rfl (by decide) (fun c93 => ?_) (fun c93 => ?_) | refine j_icmp_lt (tgt := 110) (pc' := 96) dX6_why_93 rfl (by decide) (fun c93 => ?_) (fun c93 => ?_)
              ·
                refine j_iconst (pc' := 111) (v := nI 0) dX6_why_110 rfl rfl ?_
                refine j_reti dX6_why_111 rfl (by first | rfl | exact bi_n _) ?_
                refine ⟨?_, rfl⟩
                simp (disch := omega) only [sWhy, sStand, nI_clamp, c5, c19, c31, c53, c63, c77, c93, reduceIte, Bool.false_eq_true, eq_self]
              ·
                refine j_aload_n (pc' := 97) dX6_why_96 rfl rfl ?_
                refine j_iload_n (pc' := 98) dX6_why_97 rfl rfl ?_
                refine j_iconst (pc' := 99) (v := nI 5) dX6_why_98 rfl rfl ?_
                refine j_cVi (pc' := 102) m_X6_59 (c_X6_of hs (by omega) (by omega)) (by assumption) (by decide) rfl rfl rfl ⟨Nat.le_of_ble_eq_true rfl, Nat.le_of_ble_eq_true rfl⟩ ⟨Nat.zero_le _, Nat.zero_le _⟩ (Nat.le_of_ble_eq_true rfl) dX6_why_99 rfl (fun x1 I1 hq => ?_)
                obtain ⟨rfl, rfl⟩ := hq
                refine j_iconst (pc' := 103) (v := nI 2) dX6_why_102 rfl rfl ?_
                first | refine j_icmp_leN' (tgt := 110) (pc' := 106) (by with_reducible rfl) (by with_reducible rfl) (by omega) (by omega) dX6_why_103 rfl (by decide) (fun c103 => ?_) (fun c103 => ?_) | refine j_icmp_le (tgt := 110) (pc' := 106) dX6_why_103 rfl (by decide) (fun c103 => ?_) (fun c103 => ?_)
                ·
                  refine j_iconst (pc' := 111) (v := nI 0) dX6_why_110 rfl rfl ?_
                  refine j_reti dX6_why_111 rfl (by first | rfl | exact bi_n _) ?_
                  refine ⟨?_, rfl⟩
                  simp (disch := omega) only [sWhy, sStand, nI_clamp, c5, c19, c31, c53, c63, c77, c93, c103, reduceIte, Bool.false_eq_true, eq_self]
                ·
                  refine j_iconst (pc' := 107) (v := nI 4) dX6_why_106 rfl rfl ?_
                  refine j_goto (tgt := 111) dX6_why_107 (by decide) ?_
                  refine j_reti dX6_why_111 rfl (by first | rfl | exact bi_n _) ?_
                  refine ⟨?_, rfl⟩
                  simp (disch := omega) only [sWhy, sStand, nI_clamp, c5, c19, c31, c53, c63, c77, c93, c103, reduceIte, Bool.false_eq_true, eq_self]
          ·
            refine j_iconst (pc' := 67) (v := nI 3) dX6_why_66 rfl rfl ?_
            refine j_goto (tgt := 111) dX6_why_67 (by decide) ?_
            refine j_reti dX6_why_111 rfl (by first | rfl | exact bi_n _) ?_
            refine ⟨?_, rfl⟩
            simp (disch := omega) only [sWhy, sStand, nI_clamp, c5, c19, c31, c53, c63, reduceIte, Bool.false_eq_true, eq_self]
        ·
          refine j_iconst (pc' := 57) (v := nI 2) dX6_why_56 rfl rfl ?_
          refine j_reti dX6_why_57 rfl (by first | rfl | exact bi_n _) ?_
          refine ⟨?_, rfl⟩
          simp (disch := omega) only [sWhy, sStand, nI_clamp, c5, c19, c31, c53, reduceIte, Bool.false_eq_true, eq_self]
      ·
        refine j_iconst (pc' := 35) (v := nI 0) dX6_why_34 rfl rfl ?_
        refine j_reti dX6_why_35 rfl (by first | rfl | exact bi_n _) ?_
        refine ⟨?_, rfl⟩
        simp (disch := omega) only [sWhy, sStand, nI_clamp, c5, c19, c31, reduceIte, Bool.false_eq_true, eq_self]
    ·
      refine j_iconst (pc' := 23) (v := nI 1) dX6_why_22 rfl rfl ?_
      refine j_reti dX6_why_23 rfl (by first | rfl | exact bi_n _) ?_
      refine ⟨?_, rfl⟩
      simp (disch := omega) only [sWhy, sStand, nI_clamp, c5, c19, reduceIte, Bool.false_eq_true, eq_self]
  ·
    refine j_sipush (pc' := 11) (v := -20009) dX6_why_8 rfl rfl ?_
    refine j_reti dX6_why_11 rfl (by first | rfl | exact bi_n _) ?_
    refine ⟨?_, rfl⟩
    simp (disch := omega) only [sWhy, sStand, nI_clamp, c5, reduceIte, Bool.false_eq_true, eq_self]

set_option maxRecDepth 100000 in
set_option maxHeartbeats 4000000 in
theorem c_X6_told {E : jx_E} {l : Launch} {n : Nat} {kd : jx_K} {R : jx_R} {I0 : jx_I} {m : Nat} {F v a p o t c : Nat → Int32} {i k w : Nat} {rk : Nat → Nat} (hs : sMd kd R m) (h16 : k ≤ 16) (hrk : RK v k rk) (hi : i < k) (hw : w < 16) : jx_Ci E l yX6_told cX6_told 3 (some .int) 3 n kd R (mI I0 m F v a p o t c) [.ref m, .int (nI i), .int (nI w)] (fun r I' => r = (if w < 15 then v (176 + 56 * i + w) else sWhy v i) ∧ I' = mI I0 m F v a p o t c) := by
  obtain ⟨K0, K1, K2, K3, K4, K5, K6, R0, R1, R2, R4, R6, R10⟩ := id hs
  refine jx_C0.ofJ RX6 [some (.ref m), some (.int (nI i)), some (.int (nI w))] (by decide) rfl rfl (Nat.le_of_ble_eq_true rfl) rfl ?_
  refine j_iload_n (pc' := 1) dX6_told_0 rfl rfl ?_
  refine j_bipush (pc' := 3) (v := nI 15) dX6_told_1 rfl rfl ?_
  first | refine j_icmp_geN' (tgt := 15) (pc' := 6) (by with_reducible rfl) (by with_reducible rfl) (by omega) (by omega) dX6_told_3 rfl (by decide) (fun c3 => ?_) (fun c3 => ?_) | refine j_icmp_ge (tgt := 15) (pc' := 6) dX6_told_3 rfl (by decide) (fun c3 => ?_) (fun c3 => ?_)
  ·
    refine j_aload_n (pc' := 16) dX6_told_15 rfl rfl ?_
    refine j_iload_n (pc' := 17) dX6_told_16 rfl rfl ?_
    refine j_cVi (pc' := 20) m_X6_84 (c_X6_why hs h16 hrk (by omega)) (by assumption) (by decide) rfl rfl rfl ⟨Nat.le_of_ble_eq_true rfl, Nat.le_of_ble_eq_true rfl⟩ ⟨Nat.zero_le _, Nat.zero_le _⟩ (Nat.le_of_ble_eq_true rfl) dX6_told_17 rfl (fun x1 I1 hq => ?_)
    obtain ⟨rfl, rfl⟩ := hq
    refine j_reti dX6_told_20 rfl (by first | rfl | exact bi_n _) ?_
    first | exact ⟨(if_pos (by omega)).symm, rfl⟩ | exact ⟨(if_neg (by omega)).symm, rfl⟩
  ·
    refine j_aload_n (pc' := 7) dX6_told_6 rfl rfl ?_
    refine j_iload_n (pc' := 8) dX6_told_7 rfl rfl ?_
    refine j_iload_n (pc' := 9) dX6_told_8 rfl rfl ?_
    refine j_cVi (pc' := 12) m_X6_59 (c_X6_of hs (by omega) (by omega)) (by assumption) (by decide) rfl rfl rfl ⟨Nat.le_of_ble_eq_true rfl, Nat.le_of_ble_eq_true rfl⟩ ⟨Nat.zero_le _, Nat.zero_le _⟩ (Nat.le_of_ble_eq_true rfl) dX6_told_9 rfl (fun x1 I1 hq => ?_)
    obtain ⟨rfl, rfl⟩ := hq
    refine j_goto (tgt := 20) dX6_told_12 (by decide) ?_
    refine j_reti dX6_told_20 rfl (by first | rfl | exact bi_n _) ?_
    first | exact ⟨(if_pos (by omega)).symm, rfl⟩ | exact ⟨(if_neg (by omega)).symm, rfl⟩

