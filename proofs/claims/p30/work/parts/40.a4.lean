def sF (f : Nat → Int32) : Nat → Int32
  | 0 => nI 0
  | n + 1 => sF f n + f n
theorem sF_s (f : Nat → Int32) : ∀ n, sF f (n + 1) = f 0 + sF (fun i => f (i + 1)) n := by
  intro n
  induction n with
  | zero => simp only [sF]; rw [Int32.add_comm]
  | succ n ih =>
    rw [sF, ih, sF, Int32.add_assoc]
theorem sF_ext {f g : Nat → Int32} : ∀ n, (∀ i, i < n → f i = g i) → sF f n = sF g n := by
  intro n
  induction n with
  | zero => intro _; rfl
  | succ n ih =>
    intro h
    rw [sF, sF, ih (fun i hi => h i (by omega)), h n (by omega)]
theorem sF_rot (c : Nat → Int32) : ∀ N, sF (fun i => c ((N - 1 - i) % 30)) (wA N) = sF c (wA N) := by
  intro N
  induction N with
  | zero => rfl
  | succ N ih =>
    by_cases h : N < 30
    · have e1 : wA (N + 1) = N + 1 := by unfold wA; split <;> omega
      have e0 : wA N = N := by unfold wA; split <;> omega
      rw [e0] at ih
      rw [e1, sF_s, sF, ← ih, Int32.add_comm]
      have e2 : (N + 1 - 1 - 0) % 30 = N := by omega
      rw [e2]
      congr 1 <;> exact sF_ext N (fun i _ => by rw [show N + 1 - 1 - (i + 1) = N - 1 - i from by omega])
    · have e1 : wA (N + 1) = 30 := by unfold wA; split <;> omega
      have e0 : wA N = 30 := by unfold wA; split <;> omega
      rw [e0] at ih
      rw [e1, ← ih, sF_s, sF, Int32.add_comm]
      have e2 : (N + 1 - 1 - 0) % 30 = (N - 1 - 29) % 30 := by omega
      rw [e2]
      congr 1 <;> exact sF_ext 29 (fun i _ => by rw [show N + 1 - 1 - (i + 1) = N - 1 - i from by omega])
/-- the place j of the log holds an activation of point q -/
def acC (v : Nat → Int32) (q j : Nat) : Int32 := if v (80 + 3 * j + 1) = nI 1 then if v (80 + 3 * j + 2) = nI q then nI 1 else nI 0 else nI 0
theorem wIn_sF {v : Nat → Int32} {N q : Nat} : ∀ a, a ≤ wA N → wIn v N q a = sF (fun i => acC v q ((N - 1 - i) % 30)) a := by
  intro a
  induction a with
  | zero => intro _; rfl
  | succ a ih =>
    intro ha
    have h1 : a < 30 := by unfold wA at ha; split at ha <;> omega
    have h2 : a < N := by unfold wA at ha; split at ha <;> omega
    rw [wIn, sF, ih (by omega), evOf, if_pos h1, if_pos h2, evOf, if_pos h1, if_pos h2, acC]
theorem wIn_acC {v : Nat → Int32} {N q : Nat} : wIn v N q (wA N) = sF (acC v q) (wA N) := by
  rw [wIn_sF _ (Nat.le_refl _), sF_rot (acC v q)]
theorem wA_30 (N : Nat) : wA N ≤ 30 := by unfold wA; split <;> omega

set_option maxRecDepth 100000 in
set_option maxHeartbeats 4000000 in
theorem lp_X1_activationsOf {E : jx_E} {l : Launch} {n : Nat} {kd : jx_K} {R : jx_R} {I : jx_I} {g : Nat} {v : Nat → Int32} {N q : Nat} (hg : sLg kd R g) (h : aLg I g v) (hN : v 9 = nI N) (hNb : N < 2147483000) (hq16 : q < 16) : ∀ (z j : Nat), j ≤ wA N → z + j = wA N + 1 → jx_J E l cX1_activationsOf 4 (some .int) RX1 false (jx_rm 2) 0 0 (jx_Q0 n kd R (jx_Pi (fun r I' => r = sF (acC v q) (wA N) ∧ I' = I))) 0 0 n kd R (I) 4 [some (.ref g), some (.int (nI q)), some (.int (sF (acC v q) j)), some (.int (nI j))] [] := by
  obtain ⟨K0, K1, K2, K3, R0, R1, R2⟩ := id hg
  have hT := h.1.trans hN
  have hw30 := wA_30 N
  intro z
  induction z with
  | zero => intro j hj hz; omega
  | succ z ih =>
    intro j hj hz
    refine j_iload_n (pc' := 5) dX1_activationsOf_4 rfl rfl ?_
    refine j_aload_n (pc' := 6) dX1_activationsOf_5 rfl rfl ?_
    refine j_cVi (pc' := 9) m_X1_40 (c_X1_kept hg hT hNb) (by assumption) (by decide) rfl rfl rfl ⟨Nat.le_of_ble_eq_true rfl, Nat.le_of_ble_eq_true rfl⟩ ⟨Nat.zero_le _, Nat.zero_le _⟩ (Nat.le_of_ble_eq_true rfl) dX1_activationsOf_6 rfl (fun x1 I1 hq => ?_)
    obtain ⟨rfl, rfl⟩ := hq
    first | refine j_icmp_geN' (tgt := 41) (pc' := 12) (by with_reducible rfl) (by with_reducible rfl) (by omega) (by omega) dX1_activationsOf_9 rfl (by decide) (fun c9 => ?_) (fun c9 => ?_) | refine j_icmp_ge (tgt := 41) (pc' := 12) dX1_activationsOf_9 rfl (by decide) (fun c9 => ?_) (fun c9 => ?_)
    ·
      refine j_iload_n (pc' := 42) dX1_activationsOf_41 rfl rfl ?_
      refine j_reti dX1_activationsOf_42 rfl (by first | rfl | exact bi_n _) ?_
      have : j = wA N := by omega
      subst this
      exact ⟨rfl, rfl⟩
    ·
      obtain ⟨e0, e1, e2⟩ := h.2 j (by omega)
      refine j_aload_n (pc' := 13) dX1_activationsOf_12 rfl rfl ?_
      refine j_getR (pc' := 16) f_X1_15 (by assumption) (by assumption) dX1_activationsOf_13 rfl ?_
      refine j_iload_n (pc' := 17) dX1_activationsOf_16 rfl rfl ?_
      refine j_ialdv (pc' := 18) (by assumption) rfl (by omega) (by omega) (by first | (simp (disch := omega) only [jx_upS, jx_upK, jx_upA, e1, e2]; rfl) | rfl) dX1_activationsOf_17 rfl ?_
      refine j_iconst (pc' := 19) (v := nI 1) dX1_activationsOf_18 rfl rfl ?_
      first | refine j_icmp_neN' (tgt := 35) (pc' := 22) (by with_reducible rfl) (by with_reducible rfl) (by omega) (by omega) dX1_activationsOf_19 rfl (by decide) (fun c19 => ?_) (fun c19 => ?_) | refine j_icmp_ne (tgt := 35) (pc' := 22) dX1_activationsOf_19 rfl (by decide) (fun c19 => ?_) (fun c19 => ?_)
      ·
        first | refine j_iincN (pc' := 38) (lv' := [_, _, _, _]) dX1_activationsOf_35 rfl rfl (by decide) rfl ?_ | refine j_iinc (pc' := 38) (lv' := [_, _, _, _]) dX1_activationsOf_35 rfl rfl rfl (by decide) rfl ?_
        refine j_goto (tgt := 4) dX1_activationsOf_38 (by decide) ?_
        have e : acC v q j = nI 0 := by rw [acC, if_neg c19]
        have e2 : sF (acC v q) (j + 1) = sF (acC v q) j + nI 0 := by rw [sF, e]
        have hh := ih (j + 1) (by omega) (by omega)
        rw [e2] at hh
        have e0 : sF (acC v q) j = sF (acC v q) j + nI 0 := (Int32.add_zero _).symm
        rw [e0]
        exact hh
      ·
        refine j_aload_n (pc' := 23) dX1_activationsOf_22 rfl rfl ?_
        refine j_getR (pc' := 26) f_X1_18 (by assumption) (by assumption) dX1_activationsOf_23 rfl ?_
        refine j_iload_n (pc' := 27) dX1_activationsOf_26 rfl rfl ?_
        refine j_ialdv (pc' := 28) (by assumption) rfl (by omega) (by omega) (by first | (simp (disch := omega) only [jx_upS, jx_upK, jx_upA, e1, e2]; rfl) | rfl) dX1_activationsOf_27 rfl ?_
        refine j_iload_n (pc' := 29) dX1_activationsOf_28 rfl rfl ?_
        first | refine j_icmp_neN' (tgt := 35) (pc' := 32) (by with_reducible rfl) (by with_reducible rfl) (by omega) (by omega) dX1_activationsOf_29 rfl (by decide) (fun c29 => ?_) (fun c29 => ?_) | refine j_icmp_ne (tgt := 35) (pc' := 32) dX1_activationsOf_29 rfl (by decide) (fun c29 => ?_) (fun c29 => ?_)
        ·
          first | refine j_iincN (pc' := 38) (lv' := [_, _, _, _]) dX1_activationsOf_35 rfl rfl (by decide) rfl ?_ | refine j_iinc (pc' := 38) (lv' := [_, _, _, _]) dX1_activationsOf_35 rfl rfl rfl (by decide) rfl ?_
          refine j_goto (tgt := 4) dX1_activationsOf_38 (by decide) ?_
          have e : acC v q j = nI 0 := by rw [acC, if_pos c19, if_neg c29]
          have e2 : sF (acC v q) (j + 1) = sF (acC v q) j + nI 0 := by rw [sF, e]
          have hh := ih (j + 1) (by omega) (by omega)
          rw [e2] at hh
          have e0 : sF (acC v q) j = sF (acC v q) j + nI 0 := (Int32.add_zero _).symm
          rw [e0]
          exact hh
        ·
          skip
          first | refine j_iincN (pc' := 35) (lv' := [_, _, _, _]) dX1_activationsOf_32 rfl rfl (by decide) rfl ?_ | refine j_iinc (pc' := 35) (lv' := [_, _, _, _]) dX1_activationsOf_32 rfl rfl rfl (by decide) rfl ?_
          first | refine j_iincN (pc' := 38) (lv' := [_, _, _, _]) dX1_activationsOf_35 rfl rfl (by decide) rfl ?_ | refine j_iinc (pc' := 38) (lv' := [_, _, _, _]) dX1_activationsOf_35 rfl rfl rfl (by decide) rfl ?_
          refine j_goto (tgt := 4) dX1_activationsOf_38 (by decide) ?_
          have e : acC v q j = nI 1 := by rw [acC, if_pos c19, if_pos c29]
          have e2 : sF (acC v q) (j + 1) = sF (acC v q) j + nI 1 := by rw [sF, e]
          have hh := ih (j + 1) (by omega) (by omega)
          rw [e2] at hh
          exact hh
set_option maxRecDepth 100000 in
set_option maxHeartbeats 4000000 in
theorem c_X1_activationsOf {E : jx_E} {l : Launch} {n : Nat} {kd : jx_K} {R : jx_R} {I : jx_I} {g : Nat} {v : Nat → Int32} {N q : Nat} (hg : sLg kd R g) (h : aLg I g v) (hN : v 9 = nI N) (hNb : N < 2147483000) (hq16 : q < 16) : jx_Ci E l yX1_activationsOf cX1_activationsOf 4 (some .int) 2 n kd R (I) [.ref g, .int (nI q)] (fun r I' => r = (wIn v N q (wA N)) ∧ I' = I) := by
  obtain ⟨K0, K1, K2, K3, R0, R1, R2⟩ := id hg
  rw [wIn_acC]
  refine jx_C0.ofJ RX1 [some (.ref g), some (.int (nI q)), none, none] (by decide) rfl rfl (Nat.le_of_ble_eq_true rfl) rfl ?_
  refine j_iconst (pc' := 1) (v := nI 0) dX1_activationsOf_0 rfl rfl ?_
  refine j_istore_n (pc' := 2) (lv' := [_, _, _, _]) dX1_activationsOf_1 rfl (by decide) rfl ?_
  refine j_iconst (pc' := 3) (v := nI 0) dX1_activationsOf_2 rfl rfl ?_
  refine j_istore_n (pc' := 4) (lv' := [_, _, _, _]) dX1_activationsOf_3 rfl (by decide) rfl ?_
  exact lp_X1_activationsOf hg h hN hNb hq16 (wA N + 1) 0 (by omega) (by omega)

set_option maxRecDepth 100000 in
set_option maxHeartbeats 4000000 in
theorem c_X1_copyFrom {E : jx_E} {l : Launch} {n : Nat} {kd : jx_K} {R : jx_R} {I : jx_I} {g : Nat} {f : Nat} (hg : sLg kd R g) (hf : sLg kd R f) (hgf : g + 3 < f ∨ f + 3 < g) : jx_Cv E l yX1_copyFrom cX1_copyFrom 2 none 1 n kd R (I) [.ref g, .ref f] (fun I' => (∀ b, b ≠ g → b ≠ g + 1 → b ≠ g + 2 → b ≠ g + 3 → I' b = I b) ∧ (∀ j, j < 30 → I' (g + 1) j = I (f + 1) j ∧ I' (g + 2) j = I (f + 2) j ∧ I' (g + 3) j = I (f + 3) j) ∧ I' g 3 = I f 3) := by
  obtain ⟨K0, K1, K2, K3, R0, R1, R2⟩ := id hg
  obtain ⟨L0, L1, L2, L3, P0, P1, P2⟩ := id hf
  have n0 : f ≠ g ∧ f ≠ g + 1 ∧ f ≠ g + 2 ∧ f ≠ g + 3 := by omega
  have n1 : f + 1 ≠ g ∧ f + 1 ≠ g + 1 ∧ f + 1 ≠ g + 2 ∧ f + 1 ≠ g + 3 := by omega
  have n2 : f + 2 ≠ g ∧ f + 2 ≠ g + 1 ∧ f + 2 ≠ g + 2 ∧ f + 2 ≠ g + 3 := by omega
  have n3 : f + 3 ≠ g ∧ f + 3 ≠ g + 1 ∧ f + 3 ≠ g + 2 ∧ f + 3 ≠ g + 3 := by omega
  refine jx_C0.ofJ RX1 [some (.ref g), some (.ref f)] (by decide) rfl rfl (Nat.le_of_ble_eq_true rfl) rfl ?_
  refine j_aload_n (pc' := 1) dX1_copyFrom_0 rfl rfl ?_
  refine j_getR (pc' := 4) f_X1_9 (by assumption) (by assumption) dX1_copyFrom_1 rfl ?_
  refine j_iconst (pc' := 5) (v := nI 0) dX1_copyFrom_4 rfl rfl ?_
  refine j_aload_n (pc' := 6) dX1_copyFrom_5 rfl rfl ?_
  refine j_getR (pc' := 9) f_X1_9 (by assumption) (by assumption) dX1_copyFrom_6 rfl ?_
  refine j_iconst (pc' := 10) (v := nI 0) dX1_copyFrom_9 rfl rfl ?_
  refine j_bipush (pc' := 12) (v := nI 30) dX1_copyFrom_10 rfl rfl ?_
  refine j_copyI (pc' := 15) k_138 k_128 k_127 k_8 (by assumption) (by assumption) (by decide) (by decide) (by decide) (by decide) (Nat.le_of_ble_eq_true rfl) (by decide) dX1_copyFrom_12 rfl ?_
  refine j_aload_n (pc' := 16) dX1_copyFrom_15 rfl rfl ?_
  refine j_getR (pc' := 19) f_X1_15 (by assumption) (by assumption) dX1_copyFrom_16 rfl ?_
  refine j_iconst (pc' := 20) (v := nI 0) dX1_copyFrom_19 rfl rfl ?_
  refine j_aload_n (pc' := 21) dX1_copyFrom_20 rfl rfl ?_
  refine j_getR (pc' := 24) f_X1_15 (by assumption) (by assumption) dX1_copyFrom_21 rfl ?_
  refine j_iconst (pc' := 25) (v := nI 0) dX1_copyFrom_24 rfl rfl ?_
  refine j_bipush (pc' := 27) (v := nI 30) dX1_copyFrom_25 rfl rfl ?_
  refine j_copyI (pc' := 30) k_138 k_128 k_127 k_8 (by assumption) (by assumption) (by decide) (by decide) (by decide) (by decide) (Nat.le_of_ble_eq_true rfl) (by decide) dX1_copyFrom_27 rfl ?_
  refine j_aload_n (pc' := 31) dX1_copyFrom_30 rfl rfl ?_
  refine j_getR (pc' := 34) f_X1_18 (by assumption) (by assumption) dX1_copyFrom_31 rfl ?_
  refine j_iconst (pc' := 35) (v := nI 0) dX1_copyFrom_34 rfl rfl ?_
  refine j_aload_n (pc' := 36) dX1_copyFrom_35 rfl rfl ?_
  refine j_getR (pc' := 39) f_X1_18 (by assumption) (by assumption) dX1_copyFrom_36 rfl ?_
  refine j_iconst (pc' := 40) (v := nI 0) dX1_copyFrom_39 rfl rfl ?_
  refine j_bipush (pc' := 42) (v := nI 30) dX1_copyFrom_40 rfl rfl ?_
  refine j_copyI (pc' := 45) k_138 k_128 k_127 k_8 (by assumption) (by assumption) (by decide) (by decide) (by decide) (by decide) (Nat.le_of_ble_eq_true rfl) (by decide) dX1_copyFrom_42 rfl ?_
  refine j_aload_n (pc' := 46) dX1_copyFrom_45 rfl rfl ?_
  refine j_aload_n (pc' := 47) dX1_copyFrom_46 rfl rfl ?_
  refine j_getIv (pc' := 50) f_X1_27 (by assumption) (by first | (simp (disch := omega) only [jx_upS, jx_upK, jx_upA]; rfl) | rfl) dX1_copyFrom_47 rfl ?_
  refine j_putI (pc' := 53) f_X1_27 (by assumption) rfl rfl dX1_copyFrom_50 rfl ?_
  refine j_retv dX1_copyFrom_53 rfl ?_
  refine ⟨fun b h1 h2 h3 h4 => ?_, fun j hj => ⟨?_, ?_, ?_⟩, ?_⟩
  · funext j
    simp [jx_up, upd, va_up, h1, h2, h3, h4]
  · simp [jx_up, upd, va_up, va_cpy, hj, n0, n1, n2, n3]
  · simp [jx_up, upd, va_up, va_cpy, hj, n0, n1, n2, n3]
  · simp [jx_up, upd, va_up, va_cpy, hj, n0, n1, n2, n3]
  · simp [jx_up, upd, va_up, va_cpy, n0, n1, n2, n3]

