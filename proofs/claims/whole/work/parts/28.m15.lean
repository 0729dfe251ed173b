def kp (v : Nat → Int32) (x : Int32) : Nat := kpt v x.toNatClampNeg
theorem kp_of {v : Nat → Int32} {i K : Nat} (h : v (176 + 56 * i + 15) = nI K) (hi : i < 16) (hb : K ≤ 50000) : kp v (nI i) = K := by
  rw [kp, nI_clamp (by omega), kpt, h, nI_clamp (by omega)]
def fReplay (v : Nat → Int32) (x y : Int32) : Int32 := if okP v x = true then if decide (nI 0 ≤ y ∧ y ≤ nI 1000) = true then plays v x.toNatClampNeg y (kp v x) else -20001 else -20001
/-- the least from d on, z of them -/
def ldF (f : Nat → Int32) (x : Int32) : Nat → Nat → Int32
  | 0, _ => -20009
  | z + 1, d => if f d ≤ x then nI d else ldF f x z (d + 1)
def fLeast (v : Nat → Int32) (x y : Int32) : Int32 := if okP v x = true then if decide (nI 0 ≤ y ∧ y ≤ nI 40) = true then ldF (fun d => plays v x.toNatClampNeg (nI d) (kp v x)) y 1001 0 else -20001 else -20001

set_option maxRecDepth 100000 in
set_option maxHeartbeats 4000000 in
theorem c_X6_replay {E : jx_E} {l : Launch} {n : Nat} {kd : jx_K} {R : jx_R} {I0 : jx_I} {m : Nat} {F v a p o t c : Nat → Int32} {k : Nat} {x y : Int32} (hs : sMd kd R m) (hk : v 0 = nI k) (h16 : k ≤ 16) (hK : ∀ i, i < k → ∃ K, K ≤ 50000 ∧ v (176 + 56 * i + 15) = nI K) : jx_Ci E l yX6_replay cX6_replay 3 (some .int) 3 n kd R (mI I0 m F v a p o t c) [.ref m, .int x, .int y] (fun r I' => r = fReplay v x y ∧ I' = mI I0 m F v a p o t c) := by
  obtain ⟨K0, K1, K2, K3, K4, K5, K6, R0, R1, R2, R4, R6, R10⟩ := id hs
  refine jx_C0.ofJ RX6 [some (.ref m), some (.int x), some (.int y)] (by decide) rfl rfl (Nat.le_of_ble_eq_true rfl) rfl ?_
  refine j_aload_n (pc' := 1) dX6_replay_0 rfl rfl ?_
  refine j_iload_n (pc' := 2) dX6_replay_1 rfl rfl ?_
  refine j_cVi (pc' := 5) m_X6_52 (c_X6_isPoint hs) (by assumption) (by decide) rfl rfl rfl ⟨Nat.le_of_ble_eq_true rfl, Nat.le_of_ble_eq_true rfl⟩ ⟨Nat.zero_le _, Nat.zero_le _⟩ (Nat.le_of_ble_eq_true rfl) dX6_replay_2 rfl (fun x1 I1 hq => ?_)
  obtain ⟨rfl, rfl⟩ := hq
  first | refine j_if_eqB' (tgt := 28) (pc' := 8) (by with_reducible rfl) dX6_replay_5 rfl (by decide) (fun c5 => ?_) (fun c5 => ?_) | refine j_if_eqN' (tgt := 28) (pc' := 8) (by with_reducible rfl) (by omega) dX6_replay_5 rfl (by decide) (fun c5 => ?_) (fun c5 => ?_) | refine j_if_eq (tgt := 28) (pc' := 8) dX6_replay_5 rfl (by decide) (fun c5 => ?_) (fun c5 => ?_)
  ·
    refine j_sipush (pc' := 31) (v := -20001) dX6_replay_28 rfl rfl ?_
    refine j_reti dX6_replay_31 rfl (by first | rfl | exact bi_n _) ?_
    refine ⟨?_, rfl⟩
    rw [fReplay, if_neg (by rw [c5]; decide)]
  ·
    refine j_iload_n (pc' := 9) dX6_replay_8 rfl rfl ?_
    refine j_iconst (pc' := 10) (v := nI 0) dX6_replay_9 rfl rfl ?_
    refine j_sipush (pc' := 13) (v := nI 1000) dX6_replay_10 rfl rfl ?_
    refine j_cSi (pc' := 16) m_X6_32 (c_X6_in E l n kd R _ _ _ _) rfl rfl ⟨Nat.le_of_ble_eq_true rfl, Nat.le_of_ble_eq_true rfl⟩ ⟨Nat.zero_le _, Nat.zero_le _⟩ (Nat.le_of_ble_eq_true rfl) dX6_replay_13 rfl (fun x1 I1 hq => ?_)
    obtain ⟨rfl, rfl⟩ := hq
    first | refine j_if_eqB' (tgt := 28) (pc' := 19) (by with_reducible rfl) dX6_replay_16 rfl (by decide) (fun c16 => ?_) (fun c16 => ?_) | refine j_if_eqN' (tgt := 28) (pc' := 19) (by with_reducible rfl) (by omega) dX6_replay_16 rfl (by decide) (fun c16 => ?_) (fun c16 => ?_) | refine j_if_eq (tgt := 28) (pc' := 19) dX6_replay_16 rfl (by decide) (fun c16 => ?_) (fun c16 => ?_)
    ·
      refine j_sipush (pc' := 31) (v := -20001) dX6_replay_28 rfl rfl ?_
      refine j_reti dX6_replay_31 rfl (by first | rfl | exact bi_n _) ?_
      refine ⟨?_, rfl⟩
      rw [fReplay, if_pos c5, if_neg (by rw [c16]; decide)]
    ·
      have hok := c5
      have hoy := c16
      obtain ⟨i, hi, rfl⟩ := okP_nat hk h16 c5
      obtain ⟨K, hK1, hK0⟩ := hK i hi
      refine j_aload_n (pc' := 20) dX6_replay_19 rfl rfl ?_
      refine j_iload_n (pc' := 21) dX6_replay_20 rfl rfl ?_
      refine j_iload_n (pc' := 22) dX6_replay_21 rfl rfl ?_
      refine j_cVi (pc' := 25) m_X6_134 (c_X6_plays hs (by omega) hK0 (by omega)) (by assumption) (by decide) rfl rfl rfl ⟨Nat.le_of_ble_eq_true rfl, Nat.le_of_ble_eq_true rfl⟩ ⟨Nat.zero_le _, Nat.zero_le _⟩ (Nat.le_of_ble_eq_true rfl) dX6_replay_22 rfl (fun x1 I1 hq => ?_)
      obtain ⟨rfl, rfl⟩ := hq
      refine j_goto (tgt := 31) dX6_replay_25 (by decide) ?_
      refine j_reti dX6_replay_31 rfl (by first | rfl | exact bi_n _) ?_
      refine ⟨?_, rfl⟩
      rw [fReplay, if_pos hok, if_pos hoy, nI_clamp (by omega), kp_of hK0 (by omega) (by omega)]

set_option maxRecDepth 100000 in
set_option maxHeartbeats 4000000 in
theorem lp_X6_least {E : jx_E} {l : Launch} {n : Nat} {kd : jx_K} {R : jx_R} {I0 : jx_I} {m : Nat} {F v a p o t c : Nat → Int32} {i K : Nat} {y : Int32} (hs : sMd kd R m) (hi : i < 16) (hK0 : v (176 + 56 * i + 15) = nI K) (hK1 : K ≤ 50000) : ∀ (z d : Nat), z + d = 1001 → jx_J E l cX6_leastDeadband 4 (some .int) RX6 false (jx_rm 3) 0 0 (jx_Q0 n kd R (jx_Pi (fun r I' => r = ldF (fun d => plays v i (nI d) K) y z d ∧ I' = mI I0 m F v a p o t c))) 0 0 n kd R (mI I0 m F v a p o t c) 24 [some (.ref m), some (.int (nI i)), some (.int y), some (.int (nI d))] [] := by
  obtain ⟨K0, K1, K2, K3, K4, K5, K6, R0, R1, R2, R4, R6, R10⟩ := id hs
  intro z
  induction z with
  | zero =>
    intro d hz
    refine j_iload_n (pc' := 25) dX6_leastDeadband_24 rfl rfl ?_
    refine j_sipush (pc' := 28) (v := nI 1000) dX6_leastDeadband_25 rfl rfl ?_
    first | refine j_icmp_gtN' (tgt := 49) (pc' := 31) (by with_reducible rfl) (by with_reducible rfl) (by omega) (by omega) dX6_leastDeadband_28 rfl (by decide) (fun c28 => ?_) (fun c28 => ?_) | refine j_icmp_gt (tgt := 49) (pc' := 31) dX6_leastDeadband_28 rfl (by decide) (fun c28 => ?_) (fun c28 => ?_)
    ·
      refine j_sipush (pc' := 52) (v := -20009) dX6_leastDeadband_49 rfl rfl ?_
      refine j_reti dX6_leastDeadband_52 rfl (by first | rfl | exact bi_n _) ?_
      exact ⟨rfl, rfl⟩
    ·
      exact absurd c28 (by omega)
  | succ z ih =>
    intro d hz
    refine j_iload_n (pc' := 25) dX6_leastDeadband_24 rfl rfl ?_
    refine j_sipush (pc' := 28) (v := nI 1000) dX6_leastDeadband_25 rfl rfl ?_
    first | refine j_icmp_gtN' (tgt := 49) (pc' := 31) (by with_reducible rfl) (by with_reducible rfl) (by omega) (by omega) dX6_leastDeadband_28 rfl (by decide) (fun c28 => ?_) (fun c28 => ?_) | refine j_icmp_gt (tgt := 49) (pc' := 31) dX6_leastDeadband_28 rfl (by decide) (fun c28 => ?_) (fun c28 => ?_)
    ·
      exact absurd c28 (by omega)
    ·
      refine j_aload_n (pc' := 32) dX6_leastDeadband_31 rfl rfl ?_
      refine j_iload_n (pc' := 33) dX6_leastDeadband_32 rfl rfl ?_
      refine j_iload_n (pc' := 34) dX6_leastDeadband_33 rfl rfl ?_
      refine j_cVi (pc' := 37) m_X6_134 (c_X6_plays hs (by omega) hK0 (by omega)) (by assumption) (by decide) rfl rfl rfl ⟨Nat.le_of_ble_eq_true rfl, Nat.le_of_ble_eq_true rfl⟩ ⟨Nat.zero_le _, Nat.zero_le _⟩ (Nat.le_of_ble_eq_true rfl) dX6_leastDeadband_34 rfl (fun x1 I1 hq => ?_)
      obtain ⟨rfl, rfl⟩ := hq
      refine j_iload_n (pc' := 38) dX6_leastDeadband_37 rfl rfl ?_
      first | refine j_icmp_gtN' (tgt := 43) (pc' := 41) (by with_reducible rfl) (by with_reducible rfl) (by omega) (by omega) dX6_leastDeadband_38 rfl (by decide) (fun c38 => ?_) (fun c38 => ?_) | refine j_icmp_gt (tgt := 43) (pc' := 41) dX6_leastDeadband_38 rfl (by decide) (fun c38 => ?_) (fun c38 => ?_)
      ·
        first | refine j_iincN (pc' := 46) (lv' := [_, _, _, _]) dX6_leastDeadband_43 rfl rfl (by decide) rfl ?_ | refine j_iinc (pc' := 46) (lv' := [_, _, _, _]) dX6_leastDeadband_43 rfl rfl rfl (by decide) rfl ?_
        refine j_goto (tgt := 24) dX6_leastDeadband_46 (by decide) ?_
        rw [ldF, if_neg (Int32.not_le.mpr c38)]
        exact ih (d + 1) (by omega)
      ·
        refine j_iload_n (pc' := 42) dX6_leastDeadband_41 rfl rfl ?_
        refine j_reti dX6_leastDeadband_42 rfl (by first | rfl | exact bi_n _) ?_
        exact ⟨by rw [ldF, if_pos (Int32.not_lt.mp c38)], rfl⟩
set_option maxRecDepth 100000 in
set_option maxHeartbeats 4000000 in
theorem c_X6_leastDeadband {E : jx_E} {l : Launch} {n : Nat} {kd : jx_K} {R : jx_R} {I0 : jx_I} {m : Nat} {F v a p o t c : Nat → Int32} {k : Nat} {x y : Int32} (hs : sMd kd R m) (hk : v 0 = nI k) (h16 : k ≤ 16) (hK : ∀ i, i < k → ∃ K, K ≤ 50000 ∧ v (176 + 56 * i + 15) = nI K) : jx_Ci E l yX6_leastDeadband cX6_leastDeadband 4 (some .int) 3 n kd R (mI I0 m F v a p o t c) [.ref m, .int x, .int y] (fun r I' => r = fLeast v x y ∧ I' = mI I0 m F v a p o t c) := by
  obtain ⟨K0, K1, K2, K3, K4, K5, K6, R0, R1, R2, R4, R6, R10⟩ := id hs
  refine jx_C0.ofJ RX6 [some (.ref m), some (.int x), some (.int y), none] (by decide) rfl rfl (Nat.le_of_ble_eq_true rfl) rfl ?_
  refine j_aload_n (pc' := 1) dX6_leastDeadband_0 rfl rfl ?_
  refine j_iload_n (pc' := 2) dX6_leastDeadband_1 rfl rfl ?_
  refine j_cVi (pc' := 5) m_X6_52 (c_X6_isPoint hs) (by assumption) (by decide) rfl rfl rfl ⟨Nat.le_of_ble_eq_true rfl, Nat.le_of_ble_eq_true rfl⟩ ⟨Nat.zero_le _, Nat.zero_le _⟩ (Nat.le_of_ble_eq_true rfl) dX6_leastDeadband_2 rfl (fun x1 I1 hq => ?_)
  obtain ⟨rfl, rfl⟩ := hq
  first | refine j_if_eqB' (tgt := 18) (pc' := 8) (by with_reducible rfl) dX6_leastDeadband_5 rfl (by decide) (fun c5 => ?_) (fun c5 => ?_) | refine j_if_eqN' (tgt := 18) (pc' := 8) (by with_reducible rfl) (by omega) dX6_leastDeadband_5 rfl (by decide) (fun c5 => ?_) (fun c5 => ?_) | refine j_if_eq (tgt := 18) (pc' := 8) dX6_leastDeadband_5 rfl (by decide) (fun c5 => ?_) (fun c5 => ?_)
  ·
    refine j_sipush (pc' := 21) (v := -20001) dX6_leastDeadband_18 rfl rfl ?_
    refine j_reti dX6_leastDeadband_21 rfl (by first | rfl | exact bi_n _) ?_
    refine ⟨?_, rfl⟩
    rw [fLeast, if_neg (by rw [c5]; decide)]
  ·
    refine j_iload_n (pc' := 9) dX6_leastDeadband_8 rfl rfl ?_
    refine j_iconst (pc' := 10) (v := nI 0) dX6_leastDeadband_9 rfl rfl ?_
    refine j_bipush (pc' := 12) (v := nI 40) dX6_leastDeadband_10 rfl rfl ?_
    refine j_cSi (pc' := 15) m_X6_32 (c_X6_in E l n kd R _ _ _ _) rfl rfl ⟨Nat.le_of_ble_eq_true rfl, Nat.le_of_ble_eq_true rfl⟩ ⟨Nat.zero_le _, Nat.zero_le _⟩ (Nat.le_of_ble_eq_true rfl) dX6_leastDeadband_12 rfl (fun x1 I1 hq => ?_)
    obtain ⟨rfl, rfl⟩ := hq
    first | refine j_if_neB' (tgt := 22) (pc' := 18) (by with_reducible rfl) dX6_leastDeadband_15 rfl (by decide) (fun c15 => ?_) (fun c15 => ?_) | refine j_if_neN' (tgt := 22) (pc' := 18) (by with_reducible rfl) (by omega) dX6_leastDeadband_15 rfl (by decide) (fun c15 => ?_) (fun c15 => ?_) | refine j_if_ne (tgt := 22) (pc' := 18) dX6_leastDeadband_15 rfl (by decide) (fun c15 => ?_) (fun c15 => ?_)
    ·
      have hok := c5
      have hoy := c15
      obtain ⟨i, hi, rfl⟩ := okP_nat hk h16 c5
      obtain ⟨K, hK1, hK0⟩ := hK i hi
      refine j_iconst (pc' := 23) (v := nI 0) dX6_leastDeadband_22 rfl rfl ?_
      refine j_istore_n (pc' := 24) (lv' := [_, _, _, _]) dX6_leastDeadband_23 rfl (by decide) rfl ?_
      refine ct_post_i ?_ (lp_X6_least hs (by omega) hK0 hK1 1001 0 (by omega))
      intro r I' hq
      obtain ⟨rfl, rfl⟩ := hq
      exact ⟨by rw [fLeast, if_pos hok, if_pos hoy, nI_clamp (by omega), kp_of hK0 (by omega) (by omega)], rfl⟩
    ·
      refine j_sipush (pc' := 21) (v := -20001) dX6_leastDeadband_18 rfl rfl ?_
      refine j_reti dX6_leastDeadband_21 rfl (by first | rfl | exact bi_n _) ?_
      refine ⟨?_, rfl⟩
      rw [fLeast, if_pos c5, if_neg (by rw [c15]; decide)]

/-- the activations of point i among the first a events back -/
def wIn (v : Nat → Int32) (N i : Nat) : Nat → Int32
  | 0 => nI 0
  | a + 1 => wIn v N i a + (if evOf v N a 1 = nI 1 then if evOf v N a 2 = nI i then nI 1 else nI 0 else nI 0)
def wA (N : Nat) : Nat := if N < 30 then N else 30
def wOut (v : Nat → Int32) (N : Nat) : Nat → Int32 × Int32
  | 0 => (-20009, nI 0)
  | i + 1 => ((if wIn v N i (wA N) ≤ (wOut v N i).2 then (wOut v N i).1 else nI i), (if wIn v N i (wA N) ≤ (wOut v N i).2 then (wOut v N i).2 else wIn v N i (wA N)))

set_option maxRecDepth 100000 in
set_option maxHeartbeats 4000000 in
theorem lp2_X6_worst {E : jx_E} {l : Launch} {n : Nat} {kd : jx_K} {R : jx_R} {I0 : jx_I} {m : Nat} {F v a p o t c : Nat → Int32} {Q : jx_Q} {i N : Nat} {bs mo : Int32} (hs : sMd kd R m) (hi : i < 16) (hN : v 9 = nI N) (hNb : N < 2147483000) (hx : jx_J E l cX6_worst 6 (some .int) RX6 false (jx_rm 1) 0 0 (Q) 0 0 n kd R (mI I0 m F v a p o t c) 81 [some (.ref m), some (.int bs), some (.int mo), some (.int (nI i)), some (.int (wIn v N i (wA N))), some (.int (nI (wA N)))] []) : ∀ (z b : Nat), b ≤ 30 → b ≤ N → z + b = 31 → jx_J E l cX6_worst 6 (some .int) RX6 false (jx_rm 1) 0 0 (Q) 0 0 n kd R (mI I0 m F v a p o t c) 24 [some (.ref m), some (.int bs), some (.int mo), some (.int (nI i)), some (.int (wIn v N i b)), some (.int (nI b))] [] := by
  obtain ⟨K0, K1, K2, K3, K4, K5, K6, R0, R1, R2, R4, R6, R10⟩ := id hs
  intro z
  induction z with
  | zero => intro b hb hbN hz; omega
  | succ z ih =>
    intro b hb hbN hz
    refine j_iload (pc' := 26) dX6_worst_24 rfl rfl ?_
    refine j_bipush (pc' := 28) (v := nI 30) dX6_worst_26 rfl rfl ?_
    first | refine j_icmp_geN' (tgt := 81) (pc' := 31) (by with_reducible rfl) (by with_reducible rfl) (by omega) (by omega) dX6_worst_28 rfl (by decide) (fun c28 => ?_) (fun c28 => ?_) | refine j_icmp_ge (tgt := 81) (pc' := 31) dX6_worst_28 rfl (by decide) (fun c28 => ?_) (fun c28 => ?_)
    ·
      have hb : b = wA N := by unfold wA; split <;> omega
      subst hb
      exact hx
    ·
      refine j_iload (pc' := 33) dX6_worst_31 rfl rfl ?_
      refine j_aload_n (pc' := 34) dX6_worst_33 rfl rfl ?_
      refine j_getR (pc' := 37) f_X6_7 (by assumption) (by assumption) dX6_worst_34 rfl ?_
      refine j_bipush (pc' := 39) (v := nI 9) dX6_worst_37 rfl rfl ?_
      refine j_ialdv (pc' := 40) (by assumption) rfl (by omega) (by omega) (by first | (simp (disch := omega) only [jx_upS, jx_upK, jx_upA, mI_0, mI_1, mI_2, mI_3, mI_4, mI_5, mI_6, pk_us, pk_un, hN]; rfl) | rfl) dX6_worst_39 rfl ?_
      first | refine j_icmp_geN' (tgt := 81) (pc' := 43) (by with_reducible rfl) (by with_reducible rfl) (by omega) (by omega) dX6_worst_40 rfl (by decide) (fun c40 => ?_) (fun c40 => ?_) | refine j_icmp_ge (tgt := 81) (pc' := 43) dX6_worst_40 rfl (by decide) (fun c40 => ?_) (fun c40 => ?_)
      ·
        have hb : b = wA N := by unfold wA; split <;> omega
        subst hb
        exact hx
      ·
        refine j_iload (pc' := 45) dX6_worst_43 rfl rfl ?_
        refine j_aload_n (pc' := 46) dX6_worst_45 rfl rfl ?_
        refine j_iload (pc' := 48) dX6_worst_46 rfl rfl ?_
        refine j_iconst (pc' := 49) (v := nI 1) dX6_worst_48 rfl rfl ?_
        refine j_cVi (pc' := 52) m_X6_131 (c_X6_eventOf hs hN hNb (by omega) (by omega)) (by assumption) (by decide) rfl rfl rfl ⟨Nat.le_of_ble_eq_true rfl, Nat.le_of_ble_eq_true rfl⟩ ⟨Nat.zero_le _, Nat.zero_le _⟩ (Nat.le_of_ble_eq_true rfl) dX6_worst_49 rfl (fun x1 I1 hq => ?_)
        obtain ⟨rfl, rfl⟩ := hq
        refine j_iconst (pc' := 53) (v := nI 1) dX6_worst_52 rfl rfl ?_
        first | refine j_icmp_neN' (tgt := 71) (pc' := 56) (by with_reducible rfl) (by with_reducible rfl) (by omega) (by omega) dX6_worst_53 rfl (by decide) (fun c53 => ?_) (fun c53 => ?_) | refine j_icmp_ne (tgt := 71) (pc' := 56) dX6_worst_53 rfl (by decide) (fun c53 => ?_) (fun c53 => ?_)
        ·
          refine j_iconst (pc' := 72) (v := nI 0) dX6_worst_71 rfl rfl ?_
          refine j_iadd (pc' := 73) dX6_worst_72 rfl ?_
          refine j_istore (pc' := 75) (lv' := [_, _, _, _, _, _]) dX6_worst_73 rfl (by decide) rfl ?_
          first | refine j_iincN (pc' := 78) (lv' := [_, _, _, _, _, _]) dX6_worst_75 rfl rfl (by decide) rfl ?_ | refine j_iinc (pc' := 78) (lv' := [_, _, _, _, _, _]) dX6_worst_75 rfl rfl rfl (by decide) rfl ?_
          refine j_goto (tgt := 24) dX6_worst_78 (by decide) ?_
          have e : wIn v N i (b + 1) = wIn v N i b + nI 0 := by rw [wIn, if_neg c53]
          rw [← e]
          exact ih (b + 1) (by omega) (by omega) (by omega)
        ·
          refine j_aload_n (pc' := 57) dX6_worst_56 rfl rfl ?_
          refine j_iload (pc' := 59) dX6_worst_57 rfl rfl ?_
          refine j_iconst (pc' := 60) (v := nI 2) dX6_worst_59 rfl rfl ?_
          refine j_cVi (pc' := 63) m_X6_131 (c_X6_eventOf hs hN hNb (by omega) (by omega)) (by assumption) (by decide) rfl rfl rfl ⟨Nat.le_of_ble_eq_true rfl, Nat.le_of_ble_eq_true rfl⟩ ⟨Nat.zero_le _, Nat.zero_le _⟩ (Nat.le_of_ble_eq_true rfl) dX6_worst_60 rfl (fun x1 I1 hq => ?_)
          obtain ⟨rfl, rfl⟩ := hq
          refine j_iload_n (pc' := 64) dX6_worst_63 rfl rfl ?_
          first | refine j_icmp_neN' (tgt := 71) (pc' := 67) (by with_reducible rfl) (by with_reducible rfl) (by omega) (by omega) dX6_worst_64 rfl (by decide) (fun c64 => ?_) (fun c64 => ?_) | refine j_icmp_ne (tgt := 71) (pc' := 67) dX6_worst_64 rfl (by decide) (fun c64 => ?_) (fun c64 => ?_)
          ·
            refine j_iconst (pc' := 72) (v := nI 0) dX6_worst_71 rfl rfl ?_
            refine j_iadd (pc' := 73) dX6_worst_72 rfl ?_
            refine j_istore (pc' := 75) (lv' := [_, _, _, _, _, _]) dX6_worst_73 rfl (by decide) rfl ?_
            first | refine j_iincN (pc' := 78) (lv' := [_, _, _, _, _, _]) dX6_worst_75 rfl rfl (by decide) rfl ?_ | refine j_iinc (pc' := 78) (lv' := [_, _, _, _, _, _]) dX6_worst_75 rfl rfl rfl (by decide) rfl ?_
            refine j_goto (tgt := 24) dX6_worst_78 (by decide) ?_
            have e : wIn v N i (b + 1) = wIn v N i b + nI 0 := by rw [wIn, if_pos c53, if_neg c64]
            rw [← e]
            exact ih (b + 1) (by omega) (by omega) (by omega)
          ·
            skip
            refine j_iconst (pc' := 68) (v := nI 1) dX6_worst_67 rfl rfl ?_
            refine j_goto (tgt := 72) dX6_worst_68 (by decide) ?_
            refine j_iadd (pc' := 73) dX6_worst_72 rfl ?_
            refine j_istore (pc' := 75) (lv' := [_, _, _, _, _, _]) dX6_worst_73 rfl (by decide) rfl ?_
            first | refine j_iincN (pc' := 78) (lv' := [_, _, _, _, _, _]) dX6_worst_75 rfl rfl (by decide) rfl ?_ | refine j_iinc (pc' := 78) (lv' := [_, _, _, _, _, _]) dX6_worst_75 rfl rfl rfl (by decide) rfl ?_
            refine j_goto (tgt := 24) dX6_worst_78 (by decide) ?_
            have e : wIn v N i (b + 1) = wIn v N i b + nI 1 := by rw [wIn, if_pos c53, if_pos c64]
            rw [← e]
            exact ih (b + 1) (by omega) (by omega) (by omega)
set_option maxRecDepth 100000 in
set_option maxHeartbeats 4000000 in
theorem lp_X6_worst {E : jx_E} {l : Launch} {n : Nat} {kd : jx_K} {R : jx_R} {I0 : jx_I} {m : Nat} {F v a p o t c : Nat → Int32} {k N : Nat} (hs : sMd kd R m) (hk : v 0 = nI k) (h16 : k ≤ 16) (hN : v 9 = nI N) (hNb : N < 2147483000) : ∀ (z i : Nat), i ≤ k → z + i = k + 1 → ∀ (bs mo : Int32), wOut v N i = (bs, mo) → ∀ u1 u2 : Option Value, jx_J E l cX6_worst 6 (some .int) RX6 false (jx_rm 1) 0 0 (jx_Q0 n kd R (jx_Pi (fun r I' => r = (wOut v N k).1 ∧ I' = mI I0 m F v a p o t c))) 0 0 n kd R (mI I0 m F v a p o t c) 8 [some (.ref m), some (.int bs), some (.int mo), some (.int (nI i)), u1, u2] [] := by
  obtain ⟨K0, K1, K2, K3, K4, K5, K6, R0, R1, R2, R4, R6, R10⟩ := id hs
  intro z
  induction z with
  | zero => intro i hi hz; omega
  | succ z ih =>
    intro i hi hz bs mo hw u1 u2
    refine j_iload_n (pc' := 9) dX6_worst_8 rfl rfl ?_
    refine j_aload_n (pc' := 10) dX6_worst_9 rfl rfl ?_
    refine j_getR (pc' := 13) f_X6_7 (by assumption) (by assumption) dX6_worst_10 rfl ?_
    refine j_iconst (pc' := 14) (v := nI 0) dX6_worst_13 rfl rfl ?_
    refine j_ialdv (pc' := 15) (by assumption) rfl (by omega) (by omega) (by first | (simp (disch := omega) only [jx_upS, jx_upK, jx_upA, mI_0, mI_1, mI_2, mI_3, mI_4, mI_5, mI_6, pk_us, pk_un, hk]; rfl) | rfl) dX6_worst_14 rfl ?_
    first | refine j_icmp_geN' (tgt := 112) (pc' := 18) (by with_reducible rfl) (by with_reducible rfl) (by omega) (by omega) dX6_worst_15 rfl (by decide) (fun c15 => ?_) (fun c15 => ?_) | refine j_icmp_ge (tgt := 112) (pc' := 18) dX6_worst_15 rfl (by decide) (fun c15 => ?_) (fun c15 => ?_)
    ·
      refine j_iload_n (pc' := 113) dX6_worst_112 rfl rfl ?_
      refine j_reti dX6_worst_113 rfl (by first | rfl | exact bi_n _) ?_
      have : i = k := by omega
      subst this
      exact ⟨by rw [hw], rfl⟩
    ·
      refine j_iconst (pc' := 19) (v := nI 0) dX6_worst_18 rfl rfl ?_
      refine j_istore (pc' := 21) (lv' := [_, _, _, _, _, _]) dX6_worst_19 rfl (by decide) rfl ?_
      refine j_iconst (pc' := 22) (v := nI 0) dX6_worst_21 rfl rfl ?_
      refine j_istore (pc' := 24) (lv' := [_, _, _, _, _, _]) dX6_worst_22 rfl (by decide) rfl ?_
      refine lp2_X6_worst hs (by omega) hN hNb ?_ 31 0 (by omega) (by omega) (by omega)
      refine j_iload (pc' := 83) dX6_worst_81 rfl rfl ?_
      refine j_iload_n (pc' := 84) dX6_worst_83 rfl rfl ?_
      first | refine j_icmp_leN' (tgt := 91) (pc' := 87) (by with_reducible rfl) (by with_reducible rfl) (by omega) (by omega) dX6_worst_84 rfl (by decide) (fun c84 => ?_) (fun c84 => ?_) | refine j_icmp_le (tgt := 91) (pc' := 87) dX6_worst_84 rfl (by decide) (fun c84 => ?_) (fun c84 => ?_)
      ·
        skip
        refine j_iload_n (pc' := 92) dX6_worst_91 rfl rfl ?_
        refine j_istore_n (pc' := 93) (lv' := [_, _, _, _, _, _]) dX6_worst_92 rfl (by decide) rfl ?_
        refine j_iload (pc' := 95) dX6_worst_93 rfl rfl ?_
        refine j_iload_n (pc' := 96) dX6_worst_95 rfl rfl ?_
        first | refine j_icmp_leN' (tgt := 104) (pc' := 99) (by with_reducible rfl) (by with_reducible rfl) (by omega) (by omega) dX6_worst_96 rfl (by decide) (fun c96 => ?_) (fun c96 => ?_) | refine j_icmp_le (tgt := 104) (pc' := 99) dX6_worst_96 rfl (by decide) (fun c96 => ?_) (fun c96 => ?_)
        ·
          skip
          refine j_iload_n (pc' := 105) dX6_worst_104 rfl rfl ?_
          refine j_istore_n (pc' := 106) (lv' := [_, _, _, _, _, _]) dX6_worst_105 rfl (by decide) rfl ?_
          first | refine j_iincN (pc' := 109) (lv' := [_, _, _, _, _, _]) dX6_worst_106 rfl rfl (by decide) rfl ?_ | refine j_iinc (pc' := 109) (lv' := [_, _, _, _, _, _]) dX6_worst_106 rfl rfl rfl (by decide) rfl ?_
          refine j_goto (tgt := 8) dX6_worst_109 (by decide) ?_
          have e : wOut v N (i + 1) = _ := show wOut v N (i + 1) = ((if wIn v N i (wA N) ≤ (wOut v N i).2 then (wOut v N i).1 else nI i), (if wIn v N i (wA N) ≤ (wOut v N i).2 then (wOut v N i).2 else wIn v N i (wA N))) from rfl
          rw [hw] at e
          dsimp only at e
          rw [if_pos c84, if_pos c84] at e
          exact ih (i + 1) (by omega) (by omega) _ _ e _ _
        ·
          exact absurd c84 c96
      ·
        refine j_iload_n (pc' := 88) dX6_worst_87 rfl rfl ?_
        refine j_goto (tgt := 92) dX6_worst_88 (by decide) ?_
        refine j_istore_n (pc' := 93) (lv' := [_, _, _, _, _, _]) dX6_worst_92 rfl (by decide) rfl ?_
        refine j_iload (pc' := 95) dX6_worst_93 rfl rfl ?_
        refine j_iload_n (pc' := 96) dX6_worst_95 rfl rfl ?_
        first | refine j_icmp_leN' (tgt := 104) (pc' := 99) (by with_reducible rfl) (by with_reducible rfl) (by omega) (by omega) dX6_worst_96 rfl (by decide) (fun c96 => ?_) (fun c96 => ?_) | refine j_icmp_le (tgt := 104) (pc' := 99) dX6_worst_96 rfl (by decide) (fun c96 => ?_) (fun c96 => ?_)
        ·
          exact absurd c96 c84
        ·
          skip
          refine j_iload (pc' := 101) dX6_worst_99 rfl rfl ?_
          refine j_goto (tgt := 105) dX6_worst_101 (by decide) ?_
          refine j_istore_n (pc' := 106) (lv' := [_, _, _, _, _, _]) dX6_worst_105 rfl (by decide) rfl ?_
          first | refine j_iincN (pc' := 109) (lv' := [_, _, _, _, _, _]) dX6_worst_106 rfl rfl (by decide) rfl ?_ | refine j_iinc (pc' := 109) (lv' := [_, _, _, _, _, _]) dX6_worst_106 rfl rfl rfl (by decide) rfl ?_
          refine j_goto (tgt := 8) dX6_worst_109 (by decide) ?_
          have e : wOut v N (i + 1) = _ := show wOut v N (i + 1) = ((if wIn v N i (wA N) ≤ (wOut v N i).2 then (wOut v N i).1 else nI i), (if wIn v N i (wA N) ≤ (wOut v N i).2 then (wOut v N i).2 else wIn v N i (wA N))) from rfl
          rw [hw] at e
          dsimp only at e
          rw [if_neg c84, if_neg c84] at e
          exact ih (i + 1) (by omega) (by omega) _ _ e _ _
set_option maxRecDepth 100000 in
set_option maxHeartbeats 4000000 in
theorem c_X6_worst {E : jx_E} {l : Launch} {n : Nat} {kd : jx_K} {R : jx_R} {I0 : jx_I} {m : Nat} {F v a p o t c : Nat → Int32} {k N : Nat} (hs : sMd kd R m) (hk : v 0 = nI k) (h16 : k ≤ 16) (hN : v 9 = nI N) (hNb : N < 2147483000) : jx_Ci E l yX6_worst cX6_worst 6 (some .int) 1 n kd R (mI I0 m F v a p o t c) [.ref m] (fun r I' => r = (wOut v N k).1 ∧ I' = mI I0 m F v a p o t c) := by
  obtain ⟨K0, K1, K2, K3, K4, K5, K6, R0, R1, R2, R4, R6, R10⟩ := id hs
  refine jx_C0.ofJ RX6 [some (.ref m), none, none, none, none, none] (by decide) rfl rfl (Nat.le_of_ble_eq_true rfl) rfl ?_
  refine j_sipush (pc' := 3) (v := -20009) dX6_worst_0 rfl rfl ?_
  refine j_istore_n (pc' := 4) (lv' := [_, _, _, _, _, _]) dX6_worst_3 rfl (by decide) rfl ?_
  refine j_iconst (pc' := 5) (v := nI 0) dX6_worst_4 rfl rfl ?_
  refine j_istore_n (pc' := 6) (lv' := [_, _, _, _, _, _]) dX6_worst_5 rfl (by decide) rfl ?_
  refine j_iconst (pc' := 7) (v := nI 0) dX6_worst_6 rfl rfl ?_
  refine j_istore_n (pc' := 8) (lv' := [_, _, _, _, _, _]) dX6_worst_7 rfl (by decide) rfl ?_
  exact lp_X6_worst hs hk h16 hN hNb (k + 1) 0 (by omega) (by omega) _ _ rfl none none

