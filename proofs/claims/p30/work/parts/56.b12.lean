def cntR (f : Nat → Nat) (a : Nat) : Nat → Nat
  | 0 => 0
  | m + 1 => cntR f a m + (if f m < a then 1 else 0)
theorem cntR_le {f : Nat → Nat} {a : Nat} : ∀ k, cntR f a k ≤ k := by
  intro k
  induction k with
  | zero => exact Nat.le_refl _
  | succ k ih => rw [cntR]; split <;> omega
theorem cntR_lt {f : Nat → Nat} {a j : Nat} (hj : ¬ f j < a) : ∀ k, j < k → cntR f a k < k := by
  intro k
  induction k with
  | zero => intro h; omega
  | succ k ih =>
    intro h
    rw [cntR]
    by_cases e : j = k
    · subst e
      rw [if_neg hj]
      have := cntR_le (f := f) (a := a) j
      omega
    · have := ih (by omega)
      split <;> omega
theorem cntR_m {f : Nat → Nat} {a b : Nat} (h : a ≤ b) : ∀ k, cntR f a k ≤ cntR f b k := by
  intro k
  induction k with
  | zero => exact Nat.le_refl _
  | succ k ih =>
    rw [cntR, cntR]
    by_cases h1 : f k < a
    · rw [if_pos h1, if_pos (by omega)]; omega
    · rw [if_neg h1]; split <;> omega
theorem cntR_s {f : Nat → Nat} {a b r : Nat} (h1 : a ≤ f r) (h2 : f r < b) : ∀ k, r < k → cntR f a k < cntR f b k := by
  intro k
  induction k with
  | zero => intro h; omega
  | succ k ih =>
    intro h
    rw [cntR, cntR]
    by_cases e : r = k
    · subst e
      rw [if_neg (by omega), if_pos h2]
      have := cntR_m (f := f) (a := a) (b := b) (by omega) r
      omega
    · have := ih (by omega)
      by_cases h3 : f k < a
      · rw [if_pos h3, if_pos (by omega)]; omega
      · rw [if_neg h3]; split <;> omega
theorem RK_g {v : Nat → Int32} {k : Nat} {rk : Nat → Nat} (h16 : k ≤ 16) (h : ∀ i, i < k → v (176 + 56 * i + 8) = -1 ∨ ∃ j, j < k ∧ v (176 + 56 * i + 8) = nI j ∧ rk j < rk i) : ∃ rk', RK v k rk' :=
  ⟨fun i => cntR rk (rk i) k, fun i hi => ⟨by have := cntR_lt (f := rk) (a := rk i) (j := i) (by omega) k hi; dsimp only; omega, (h i hi).imp id (fun ⟨j, h1, h2, h3⟩ => ⟨j, h1, h2, cntR_s (Nat.le_refl _) h3 k h1⟩)⟩⟩
theorem climb_f {v : Nat → Int32} {k : Nat} {rk : Nat → Nat} {x : Int32} (h16 : k ≤ 16) (hrk : RK v k rk) : ∀ (f : Nat) (z : Int32), rkUp k rk f z → climb v x (f + 1) z = climb v x f z := by
  intro f
  induction f with
  | zero =>
    intro z h
    rcases h with rfl | ⟨j, h1, h2, h3⟩
    · rw [climb_n m1_neg, climb_n m1_neg]
    · omega
  | succ f ih =>
    intro z h
    rcases h with rfl | ⟨j, h1, rfl, h3⟩
    · rw [climb_n m1_neg, climb_n m1_neg]
    · have hc : ∀ g, climb v x (g + 1) (nI j) = if nI j = x then nI j else climb v x g (v (176 + 56 * j + 8)) := fun g => by
        rw [climb, if_neg (nI_pos (by omega)), nI_clamp (by omega)]
      rw [hc (f + 1), hc f]
      split
      · rfl
      · exact ih _ (by
          rcases (hrk j h1).2 with e | ⟨j2, a, b, c⟩
          · exact Or.inl e
          · exact Or.inr ⟨j2, a, b, by omega⟩)
theorem VI.root {v : Nat → Int32} {k T S N i : Nat} {y : Int32} (h : VI v k T S N) (hi : i < k) (hy : y = -1 ∨ okP v y = true) (hc : ¬ climb v (nI i) 16 y = nI i) : VI (upd v (176 + 56 * i + 8) y) k T S N := by
  have h16 := h.k16
  obtain ⟨rk, hrk⟩ := h.r
  refine ⟨?_, h.k16, ?_, h.tl, ?_, ?_, ?_, h.sl, ?_, fun j hj w hw => ?_, RK_g (rk := fun j => if climb v (nI i) 16 (nI j) = nI i then rk j + 16 else rk j) h16 (fun j hj => ?_)⟩
  · rw [pk_un (by omega)]; exact h.z
  · rw [pk_un (by omega)]; exact h.t
  · rw [pk_un (by omega)]; exact h.m
  · rw [pk_un (by omega)]; exact h.f
  · rw [pk_un (by omega)]; exact h.s
  · rw [pk_un (by omega)]; exact h.n
  · by_cases e : 176 + 56 * j + w = 176 + 56 * i + 8
    · have : w = 8 := by omega
      subst this
      exact okW_free (by omega)
    · rw [pk_un e]
      exact h.p hj w hw
  · by_cases e : j = i
    · subst e
      rw [pk_us]
      rcases hy with hy | hy
      · exact Or.inl hy
      · obtain ⟨y', hy1, rfl⟩ := okP_nat h.z h16 hy
        refine Or.inr ⟨y', hy1, rfl, ?_⟩
        have := (hrk y' hy1).1
        rw [if_neg hc, if_pos (climb_e (nI_pos (by omega)))]
        omega
    · rw [pk_un (by omega)]
      refine (hrk j hj).2.imp id (fun ⟨r, a, b, c⟩ => ⟨r, a, b, ?_⟩)
      have hr15 : rkUp k rk 15 (v (176 + 56 * j + 8)) := Or.inr ⟨r, a, b, by have := (hrk j hj).1; omega⟩
      have hne : ¬ nI j = nI i := fun z => e ((nI_eq (by omega) (by omega)).mp z)
      have hcl : climb v (nI i) 16 (nI j) = climb v (nI i) 16 (nI r) := by
        have e1 : climb v (nI i) 16 (nI j) = climb v (nI i) 15 (v (176 + 56 * j + 8)) := by
          rw [climb, if_neg (nI_pos (by omega)), if_neg hne, nI_clamp (by omega)]
        rw [e1, ← b]
        exact (climb_f h16 hrk 15 _ hr15).symm
      rw [hcl]
      split <;> omega

set_option maxRecDepth 100000 in
set_option maxHeartbeats 4000000 in
theorem lp_X4_isOnWayUp {E : jx_E} {l : Launch} {n : Nat} {kd : jx_K} {R : jx_R} {I0 I : jx_I} {q : Nat} {v : Nat → Int32} {k T S N : Nat} {i : Nat} {y : Int32} {rk : Nat → Nat} (hs : sSt kd R q) (h : aS I0 I q v k T S N) (hi : i < k) (hrk : RK v k rk) : ∀ (f : Nat) (z : Int32), f ≤ 16 → rkUp k rk f z → jx_J E l cX4_isOnWayUp 5 (some .boolean) RX4 false (jx_rm 2) 0 0 (jx_Q0 n kd R (jx_Pi (fun r I' => r = bi (decide (climb v (nI i) f z = nI i)) ∧ I' = I))) 0 0 n kd R (I) 5 [some (.ref q), some (.int (nI i)), some (.int y), some (.int z), some (.int (nI (16 - f)))] [] := by
  obtain ⟨K0, K1, R0, R1, R2, hF, hL, hP⟩ := id hs
  obtain ⟨FK0, FK1, FR0⟩ := id hF
  obtain ⟨LK0, LK1, LK2, LK3, LR0, LR1, LR2⟩ := id hL
  have h16 := h.vi.k16
  have hT1 := h.vi.tl
  have hS1 := h.vi.sl
  intro f
  induction f with
  | zero =>
    intro z hf hup
    rcases hup with rfl | ⟨j, hj, rfl, hrj⟩
    · skip
      refine j_iload (pc' := 7) dX4_isOnWayUp_5 rfl rfl ?_
      refine j_bipush (pc' := 9) (v := nI 16) dX4_isOnWayUp_7 rfl rfl ?_
      first | refine j_icmp_geN' (tgt := 43) (pc' := 12) (by with_reducible rfl) (by with_reducible rfl) (by omega) (by omega) dX4_isOnWayUp_9 rfl (by decide) (fun c9 => ?_) (fun c9 => ?_) | refine j_icmp_ge (tgt := 43) (pc' := 12) dX4_isOnWayUp_9 rfl (by decide) (fun c9 => ?_) (fun c9 => ?_)
      ·
        refine j_iconst (pc' := 44) (v := nI 0) dX4_isOnWayUp_43 rfl rfl ?_
        refine j_reti dX4_isOnWayUp_44 rfl (by first | rfl | exact bi_n _) ?_
        exact ⟨bi_F (decide_eq_false (by rw [climb_n m1_neg]; exact fun z => absurd (z ▸ m1_neg) (nI_pos (by omega)))), rfl⟩
      ·
        exact absurd c9 (by omega)
    · omega
  | succ f ih0 =>
    intro z hf hup
    have ih := fun y => ih0 y (by omega)
    have e17 : 16 - (f + 1) + 1 = 16 - f := by omega
    rcases hup with rfl | ⟨j, hj, rfl, hrj⟩
    ·
      refine j_iload (pc' := 7) dX4_isOnWayUp_5 rfl rfl ?_
      refine j_bipush (pc' := 9) (v := nI 16) dX4_isOnWayUp_7 rfl rfl ?_
      first | refine j_icmp_geN' (tgt := 43) (pc' := 12) (by with_reducible rfl) (by with_reducible rfl) (by omega) (by omega) dX4_isOnWayUp_9 rfl (by decide) (fun c9 => ?_) (fun c9 => ?_) | refine j_icmp_ge (tgt := 43) (pc' := 12) dX4_isOnWayUp_9 rfl (by decide) (fun c9 => ?_) (fun c9 => ?_)
      ·
        exact absurd c9 (by omega)
      ·
        refine j_aload_n (pc' := 13) dX4_isOnWayUp_12 rfl rfl ?_
        refine j_iload_n (pc' := 14) dX4_isOnWayUp_13 rfl rfl ?_
        refine j_cVi (pc' := 17) m_X4_69 (c_X4_hasPoint hs h) (by assumption) (by decide) rfl rfl rfl ⟨Nat.le_of_ble_eq_true rfl, Nat.le_of_ble_eq_true rfl⟩ ⟨Nat.zero_le _, Nat.zero_le _⟩ (Nat.le_of_ble_eq_true rfl) dX4_isOnWayUp_14 rfl (fun x1 I1 hq => ?_)
        obtain ⟨rfl, rfl⟩ := hq
        first | refine j_if_eqB' (tgt := 43) (pc' := 20) (by with_reducible rfl) dX4_isOnWayUp_17 rfl (by decide) (fun c17 => ?_) (fun c17 => ?_) | refine j_if_eqN' (tgt := 43) (pc' := 20) (by with_reducible rfl) (by omega) dX4_isOnWayUp_17 rfl (by decide) (fun c17 => ?_) (fun c17 => ?_) | refine j_if_eq (tgt := 43) (pc' := 20) dX4_isOnWayUp_17 rfl (by decide) (fun c17 => ?_) (fun c17 => ?_)
        ·
          refine j_iconst (pc' := 44) (v := nI 0) dX4_isOnWayUp_43 rfl rfl ?_
          refine j_reti dX4_isOnWayUp_44 rfl (by first | rfl | exact bi_n _) ?_
          exact ⟨bi_F (decide_eq_false (by rw [climb_n m1_neg]; exact fun z => absurd (z ▸ m1_neg) (nI_pos (by omega)))), rfl⟩
        ·
          rw [okP_m1] at c17
          exact absurd c17 (by decide)
    ·
      obtain ⟨hRi, hPi⟩ := hP j (by omega)
      obtain ⟨P0, P1, P2, PR0, PR1⟩ := id hPi
      have hst : climb v (nI i) (f + 1) (nI j) = if nI j = nI i then nI j else climb v (nI i) f (v (176 + 56 * j + 8)) := by
        rw [climb, if_neg (nI_pos (by omega)), nI_clamp (by omega)]
      have hup : rkUp k rk f (v (176 + 56 * j + 8)) := by
        rcases (hrk j hj).2 with e | ⟨j2, h1, h2, h3⟩
        · exact Or.inl e
        · exact Or.inr ⟨j2, h1, h2, by omega⟩
      refine j_iload (pc' := 7) dX4_isOnWayUp_5 rfl rfl ?_
      refine j_bipush (pc' := 9) (v := nI 16) dX4_isOnWayUp_7 rfl rfl ?_
      first | refine j_icmp_geN' (tgt := 43) (pc' := 12) (by with_reducible rfl) (by with_reducible rfl) (by omega) (by omega) dX4_isOnWayUp_9 rfl (by decide) (fun c9 => ?_) (fun c9 => ?_) | refine j_icmp_ge (tgt := 43) (pc' := 12) dX4_isOnWayUp_9 rfl (by decide) (fun c9 => ?_) (fun c9 => ?_)
      ·
        exact absurd c9 (by omega)
      ·
        refine j_aload_n (pc' := 13) dX4_isOnWayUp_12 rfl rfl ?_
        refine j_iload_n (pc' := 14) dX4_isOnWayUp_13 rfl rfl ?_
        refine j_cVi (pc' := 17) m_X4_69 (c_X4_hasPoint hs h) (by assumption) (by decide) rfl rfl rfl ⟨Nat.le_of_ble_eq_true rfl, Nat.le_of_ble_eq_true rfl⟩ ⟨Nat.zero_le _, Nat.zero_le _⟩ (Nat.le_of_ble_eq_true rfl) dX4_isOnWayUp_14 rfl (fun x1 I1 hq => ?_)
        obtain ⟨rfl, rfl⟩ := hq
        first | refine j_if_eqB' (tgt := 43) (pc' := 20) (by with_reducible rfl) dX4_isOnWayUp_17 rfl (by decide) (fun c17 => ?_) (fun c17 => ?_) | refine j_if_eqN' (tgt := 43) (pc' := 20) (by with_reducible rfl) (by omega) dX4_isOnWayUp_17 rfl (by decide) (fun c17 => ?_) (fun c17 => ?_) | refine j_if_eq (tgt := 43) (pc' := 20) dX4_isOnWayUp_17 rfl (by decide) (fun c17 => ?_) (fun c17 => ?_)
        ·
          rw [okP_of h.vi.z h16 hj] at c17
          exact absurd c17 (by decide)
        ·
          refine j_iload_n (pc' := 21) dX4_isOnWayUp_20 rfl rfl ?_
          refine j_iload_n (pc' := 22) dX4_isOnWayUp_21 rfl rfl ?_
          first | refine j_icmp_neN' (tgt := 27) (pc' := 25) (by with_reducible rfl) (by with_reducible rfl) (by omega) (by omega) dX4_isOnWayUp_22 rfl (by decide) (fun c22 => ?_) (fun c22 => ?_) | refine j_icmp_ne (tgt := 27) (pc' := 25) dX4_isOnWayUp_22 rfl (by decide) (fun c22 => ?_) (fun c22 => ?_)
          ·
            refine j_aload_n (pc' := 28) dX4_isOnWayUp_27 rfl rfl ?_
            refine j_getR (pc' := 31) f_X4_11 (by assumption) (by assumption) dX4_isOnWayUp_28 rfl ?_
            refine j_iload_n (pc' := 32) dX4_isOnWayUp_31 rfl rfl ?_
            first | refine j_aaldP (pc' := 33) (by assumption) rfl (by omega) (by omega) (by first | assumption | (simp (disch := omega) only [h.num, h.tim, h.mod, h.act, h.akt, h.aks, h.f1, h.f2, h.f3, h.f4, h.f5, (h.pt hj).2.2.1, (h.pt hj).2.2.2.1, (h.pt hj).2.2.2.2.1, (h.pt hj).2.2.2.2.2.1, (h.pt hj).2.2.2.2.2.2.1, (h.pt hj).2.2.2.2.2.2.2.1, (h.pt hj).2.2.2.2.2.2.2.2.1, (h.pt hj).2.2.2.2.2.2.2.2.2.1]; done)) dX4_isOnWayUp_32 rfl ?_ | refine j_aaldS (pc' := 33) (by assumption) rfl (by omega) (by omega) (by assumption) dX4_isOnWayUp_32 rfl ?_
            refine j_getIv (pc' := 36) f_X4_98 (by assumption) (by first | (simp (disch := omega) only [jx_upS, jx_upK, jx_upA, h.num, h.tim, h.mod, h.act, h.akt, h.aks, h.f1, h.f2, h.f3, h.f4, h.f5, (h.pt hj).2.2.1, (h.pt hj).2.2.2.1, (h.pt hj).2.2.2.2.1, (h.pt hj).2.2.2.2.2.1, (h.pt hj).2.2.2.2.2.2.1, (h.pt hj).2.2.2.2.2.2.2.1, (h.pt hj).2.2.2.2.2.2.2.2.1, (h.pt hj).2.2.2.2.2.2.2.2.2.1]; rfl) | rfl) dX4_isOnWayUp_33 rfl ?_
            refine j_istore_n (pc' := 37) (lv' := [_, _, _, _, _]) dX4_isOnWayUp_36 rfl (by decide) rfl ?_
            first | refine j_iincN (pc' := 40) (lv' := [_, _, _, _, _]) dX4_isOnWayUp_37 rfl rfl (by decide) rfl ?_ | refine j_iinc (pc' := 40) (lv' := [_, _, _, _, _]) dX4_isOnWayUp_37 rfl rfl rfl (by decide) rfl ?_
            refine j_goto (tgt := 5) dX4_isOnWayUp_40 (by decide) ?_
            have hne : ¬ nI j = nI i := fun z => c22 ((nI_eq (by omega) (by omega)).mp z)
            rw [hst, if_neg hne, e17]
            exact ih _ hup
          ·
            refine j_iconst (pc' := 26) (v := nI 1) dX4_isOnWayUp_25 rfl rfl ?_
            refine j_reti dX4_isOnWayUp_26 rfl (by first | rfl | exact bi_n _) ?_
            subst c22
            exact ⟨bi_T (decide_eq_true (climb_e (nI_pos (by omega)))), rfl⟩
set_option maxRecDepth 100000 in
set_option maxHeartbeats 4000000 in
theorem c_X4_isOnWayUp {E : jx_E} {l : Launch} {n : Nat} {kd : jx_K} {R : jx_R} {I0 I : jx_I} {q : Nat} {v : Nat → Int32} {k T S N : Nat} {i : Nat} {y : Int32} {rk : Nat → Nat} (hs : sSt kd R q) (h : aS I0 I q v k T S N) (hi : i < k) (hrk : RK v k rk) (hy : y = -1 ∨ okP v y = true) : jx_Ci E l yX4_isOnWayUp cX4_isOnWayUp 5 (some .boolean) 2 n kd R (I) [.ref q, .int (nI i), .int y] (fun r I' => r = (bi (decide (climb v (nI i) 16 y = nI i))) ∧ I' = I) := by
  obtain ⟨K0, K1, R0, R1, R2, hF, hL, hP⟩ := id hs
  obtain ⟨FK0, FK1, FR0⟩ := id hF
  obtain ⟨LK0, LK1, LK2, LK3, LR0, LR1, LR2⟩ := id hL
  have h16 := h.vi.k16
  have hT1 := h.vi.tl
  have hS1 := h.vi.sl
  refine jx_C0.ofJ RX4 [some (.ref q), some (.int (nI i)), some (.int y), none, none] (by decide) rfl rfl (Nat.le_of_ble_eq_true rfl) rfl ?_
  refine j_iload_n (pc' := 1) dX4_isOnWayUp_0 rfl rfl ?_
  refine j_istore_n (pc' := 2) (lv' := [_, _, _, _, _]) dX4_isOnWayUp_1 rfl (by decide) rfl ?_
  refine j_iconst (pc' := 3) (v := nI 0) dX4_isOnWayUp_2 rfl rfl ?_
  refine j_istore (pc' := 5) (lv' := [_, _, _, _, _]) dX4_isOnWayUp_3 rfl (by decide) rfl ?_
  exact lp_X4_isOnWayUp hs h hi hrk 16 _ (Nat.le_refl _) (by
    rcases hy with rfl | hy
    · exact Or.inl rfl
    · obtain ⟨j, h1, rfl⟩ := okP_nat h.vi.z h16 hy
      exact Or.inr ⟨j, h1, rfl, (hrk j h1).1⟩)

set_option maxRecDepth 100000 in
set_option maxHeartbeats 4000000 in
theorem c_X4_changeRoot {E : jx_E} {l : Launch} {n : Nat} {kd : jx_K} {R : jx_R} {I0 I : jx_I} {q : Nat} {v : Nat → Int32} {k T S N : Nat} {x y : Int32} {rk : Nat → Nat} (hs : sSt kd R q) (h : aS I0 I q v k T S N) (hrk : RK v k rk) : jx_Ci E l yX4_changeRoot cX4_changeRoot 4 (some .int) 3 n kd R (I) [.ref q, .int x, .int y] (fun r I' => r = (if okP v x = true ∧ (y = -1 ∨ okP v y = true) then if climb v x 16 y = x then -20002 else v (176 + 56 * x.toNatClampNeg + 8) else -20001) ∧ aS I0 I' q (if (okP v x = true ∧ (y = -1 ∨ okP v y = true)) ∧ ¬ climb v x 16 y = x then upd v (176 + 56 * x.toNatClampNeg + 8) y else v) k T S N) := by
  obtain ⟨K0, K1, R0, R1, R2, hF, hL, hP⟩ := id hs
  obtain ⟨FK0, FK1, FR0⟩ := id hF
  obtain ⟨LK0, LK1, LK2, LK3, LR0, LR1, LR2⟩ := id hL
  have h16 := h.vi.k16
  have hT1 := h.vi.tl
  have hS1 := h.vi.sl
  refine jx_C0.ofJ RX4 [some (.ref q), some (.int x), some (.int y), none] (by decide) rfl rfl (Nat.le_of_ble_eq_true rfl) rfl ?_
  refine j_aload_n (pc' := 1) dX4_changeRoot_0 rfl rfl ?_
  refine j_iload_n (pc' := 2) dX4_changeRoot_1 rfl rfl ?_
  refine j_cVi (pc' := 5) m_X4_69 (c_X4_hasPoint hs h) (by assumption) (by decide) rfl rfl rfl ⟨Nat.le_of_ble_eq_true rfl, Nat.le_of_ble_eq_true rfl⟩ ⟨Nat.zero_le _, Nat.zero_le _⟩ (Nat.le_of_ble_eq_true rfl) dX4_changeRoot_2 rfl (fun x1 I1 hq => ?_)
  obtain ⟨rfl, rfl⟩ := hq
  first | refine j_if_eqB' (tgt := 21) (pc' := 8) (by with_reducible rfl) dX4_changeRoot_5 rfl (by decide) (fun c5 => ?_) (fun c5 => ?_) | refine j_if_eqN' (tgt := 21) (pc' := 8) (by with_reducible rfl) (by omega) dX4_changeRoot_5 rfl (by decide) (fun c5 => ?_) (fun c5 => ?_) | refine j_if_eq (tgt := 21) (pc' := 8) dX4_changeRoot_5 rfl (by decide) (fun c5 => ?_) (fun c5 => ?_)
  ·
    refine j_sipush (pc' := 24) (v := -20001) dX4_changeRoot_21 rfl rfl ?_
    refine j_reti dX4_changeRoot_24 rfl (by first | rfl | exact bi_n _) ?_
    rw [if_neg (fun z => by rw [c5] at z; exact absurd z.1 (by decide)), if_neg (fun z => (fun z => by rw [c5] at z; exact absurd z.1 (by decide)) z.1)]
    exact ⟨rfl, h⟩
  ·
    have hok := c5
    obtain ⟨i, hi, rfl⟩ := okP_nat h.vi.z h16 c5
    obtain ⟨hRi, hPi⟩ := hP i (by omega)
    obtain ⟨P0, P1, P2, PR0, PR1⟩ := id hPi
    refine j_iload_n (pc' := 9) dX4_changeRoot_8 rfl rfl ?_
    refine j_iconst (pc' := 10) (v := -1) dX4_changeRoot_9 rfl rfl ?_
    first | refine j_icmp_eqN' (tgt := 25) (pc' := 13) (by with_reducible rfl) (by with_reducible rfl) (by omega) (by omega) dX4_changeRoot_10 rfl (by decide) (fun c10 => ?_) (fun c10 => ?_) | refine j_icmp_eq (tgt := 25) (pc' := 13) dX4_changeRoot_10 rfl (by decide) (fun c10 => ?_) (fun c10 => ?_)
    ·
      have hy : y = -1 ∨ okP v y = true := Or.inl c10
      refine j_aload_n (pc' := 26) dX4_changeRoot_25 rfl rfl ?_
      refine j_iload_n (pc' := 27) dX4_changeRoot_26 rfl rfl ?_
      refine j_iload_n (pc' := 28) dX4_changeRoot_27 rfl rfl ?_
      refine j_cVi (pc' := 31) m_X4_94 (c_X4_isOnWayUp hs h hi hrk hy) (by assumption) (by decide) rfl rfl rfl ⟨Nat.le_of_ble_eq_true rfl, Nat.le_of_ble_eq_true rfl⟩ ⟨Nat.zero_le _, Nat.zero_le _⟩ (Nat.le_of_ble_eq_true rfl) dX4_changeRoot_28 rfl (fun x1 I1 hq => ?_)
      obtain ⟨rfl, rfl⟩ := hq
      first | refine j_if_eqB' (tgt := 38) (pc' := 34) (by with_reducible rfl) dX4_changeRoot_31 rfl (by decide) (fun c31 => ?_) (fun c31 => ?_) | refine j_if_eqN' (tgt := 38) (pc' := 34) (by with_reducible rfl) (by omega) dX4_changeRoot_31 rfl (by decide) (fun c31 => ?_) (fun c31 => ?_) | refine j_if_eq (tgt := 38) (pc' := 34) dX4_changeRoot_31 rfl (by decide) (fun c31 => ?_) (fun c31 => ?_)
      ·
        refine j_aload_n (pc' := 39) dX4_changeRoot_38 rfl rfl ?_
        refine j_getR (pc' := 42) f_X4_11 (by assumption) (by assumption) dX4_changeRoot_39 rfl ?_
        refine j_iload_n (pc' := 43) dX4_changeRoot_42 rfl rfl ?_
        first | refine j_aaldP (pc' := 44) (by assumption) rfl (by omega) (by omega) (by first | assumption | (simp (disch := omega) only [h.num, h.tim, h.mod, h.act, h.akt, h.aks, h.f1, h.f2, h.f3, h.f4, h.f5, (h.pt hi).2.2.1, (h.pt hi).2.2.2.1, (h.pt hi).2.2.2.2.1, (h.pt hi).2.2.2.2.2.1, (h.pt hi).2.2.2.2.2.2.1, (h.pt hi).2.2.2.2.2.2.2.1, (h.pt hi).2.2.2.2.2.2.2.2.1, (h.pt hi).2.2.2.2.2.2.2.2.2.1]; done)) dX4_changeRoot_43 rfl ?_ | refine j_aaldS (pc' := 44) (by assumption) rfl (by omega) (by omega) (by assumption) dX4_changeRoot_43 rfl ?_
        refine j_getIv (pc' := 47) f_X4_98 (by assumption) (by first | (simp (disch := omega) only [jx_upS, jx_upK, jx_upA, h.num, h.tim, h.mod, h.act, h.akt, h.aks, h.f1, h.f2, h.f3, h.f4, h.f5, (h.pt hi).2.2.1, (h.pt hi).2.2.2.1, (h.pt hi).2.2.2.2.1, (h.pt hi).2.2.2.2.2.1, (h.pt hi).2.2.2.2.2.2.1, (h.pt hi).2.2.2.2.2.2.2.1, (h.pt hi).2.2.2.2.2.2.2.2.1, (h.pt hi).2.2.2.2.2.2.2.2.2.1]; rfl) | rfl) dX4_changeRoot_44 rfl ?_
        refine j_istore_n (pc' := 48) (lv' := [_, _, _, _]) dX4_changeRoot_47 rfl (by decide) rfl ?_
        refine j_aload_n (pc' := 49) dX4_changeRoot_48 rfl rfl ?_
        refine j_getR (pc' := 52) f_X4_11 (by assumption) (by assumption) dX4_changeRoot_49 rfl ?_
        refine j_iload_n (pc' := 53) dX4_changeRoot_52 rfl rfl ?_
        first | refine j_aaldP (pc' := 54) (by assumption) rfl (by omega) (by omega) (by first | assumption | (simp (disch := omega) only [h.num, h.tim, h.mod, h.act, h.akt, h.aks, h.f1, h.f2, h.f3, h.f4, h.f5, (h.pt hi).2.2.1, (h.pt hi).2.2.2.1, (h.pt hi).2.2.2.2.1, (h.pt hi).2.2.2.2.2.1, (h.pt hi).2.2.2.2.2.2.1, (h.pt hi).2.2.2.2.2.2.2.1, (h.pt hi).2.2.2.2.2.2.2.2.1, (h.pt hi).2.2.2.2.2.2.2.2.2.1]; done)) dX4_changeRoot_53 rfl ?_ | refine j_aaldS (pc' := 54) (by assumption) rfl (by omega) (by omega) (by assumption) dX4_changeRoot_53 rfl ?_
        refine j_iload_n (pc' := 55) dX4_changeRoot_54 rfl rfl ?_
        refine j_putI (pc' := 58) f_X4_98 (by assumption) rfl rfl dX4_changeRoot_55 rfl ?_
        refine j_iload_n (pc' := 59) dX4_changeRoot_58 rfl rfl ?_
        refine j_reti dX4_changeRoot_59 rfl (by first | rfl | exact bi_n _) ?_
        rw [if_pos ⟨hok, hy⟩, if_neg (of_decide_eq_false c31), if_pos ⟨⟨hok, hy⟩, of_decide_eq_false c31⟩, nI_clamp (show i < 2147483648 from by omega)]
        exact ⟨rfl, h.p4 hi (h.vi.root hi hy (of_decide_eq_false c31))⟩
      ·
        refine j_sipush (pc' := 37) (v := -20002) dX4_changeRoot_34 rfl rfl ?_
        refine j_reti dX4_changeRoot_37 rfl (by first | rfl | exact bi_n _) ?_
        rw [if_pos ⟨hok, hy⟩, if_pos (of_decide_eq_true c31), if_neg (fun z => z.2 (of_decide_eq_true c31))]
        exact ⟨rfl, h⟩
    ·
      refine j_aload_n (pc' := 14) dX4_changeRoot_13 rfl rfl ?_
      refine j_iload_n (pc' := 15) dX4_changeRoot_14 rfl rfl ?_
      refine j_cVi (pc' := 18) m_X4_69 (c_X4_hasPoint hs h) (by assumption) (by decide) rfl rfl rfl ⟨Nat.le_of_ble_eq_true rfl, Nat.le_of_ble_eq_true rfl⟩ ⟨Nat.zero_le _, Nat.zero_le _⟩ (Nat.le_of_ble_eq_true rfl) dX4_changeRoot_15 rfl (fun x1 I1 hq => ?_)
      obtain ⟨rfl, rfl⟩ := hq
      first | refine j_if_neB' (tgt := 25) (pc' := 21) (by with_reducible rfl) dX4_changeRoot_18 rfl (by decide) (fun c18 => ?_) (fun c18 => ?_) | refine j_if_neN' (tgt := 25) (pc' := 21) (by with_reducible rfl) (by omega) dX4_changeRoot_18 rfl (by decide) (fun c18 => ?_) (fun c18 => ?_) | refine j_if_ne (tgt := 25) (pc' := 21) dX4_changeRoot_18 rfl (by decide) (fun c18 => ?_) (fun c18 => ?_)
      ·
        have hy : y = -1 ∨ okP v y = true := Or.inr c18
        refine j_aload_n (pc' := 26) dX4_changeRoot_25 rfl rfl ?_
        refine j_iload_n (pc' := 27) dX4_changeRoot_26 rfl rfl ?_
        refine j_iload_n (pc' := 28) dX4_changeRoot_27 rfl rfl ?_
        refine j_cVi (pc' := 31) m_X4_94 (c_X4_isOnWayUp hs h hi hrk hy) (by assumption) (by decide) rfl rfl rfl ⟨Nat.le_of_ble_eq_true rfl, Nat.le_of_ble_eq_true rfl⟩ ⟨Nat.zero_le _, Nat.zero_le _⟩ (Nat.le_of_ble_eq_true rfl) dX4_changeRoot_28 rfl (fun x1 I1 hq => ?_)
        obtain ⟨rfl, rfl⟩ := hq
        first | refine j_if_eqB' (tgt := 38) (pc' := 34) (by with_reducible rfl) dX4_changeRoot_31 rfl (by decide) (fun c31 => ?_) (fun c31 => ?_) | refine j_if_eqN' (tgt := 38) (pc' := 34) (by with_reducible rfl) (by omega) dX4_changeRoot_31 rfl (by decide) (fun c31 => ?_) (fun c31 => ?_) | refine j_if_eq (tgt := 38) (pc' := 34) dX4_changeRoot_31 rfl (by decide) (fun c31 => ?_) (fun c31 => ?_)
        ·
          refine j_aload_n (pc' := 39) dX4_changeRoot_38 rfl rfl ?_
          refine j_getR (pc' := 42) f_X4_11 (by assumption) (by assumption) dX4_changeRoot_39 rfl ?_
          refine j_iload_n (pc' := 43) dX4_changeRoot_42 rfl rfl ?_
          first | refine j_aaldP (pc' := 44) (by assumption) rfl (by omega) (by omega) (by first | assumption | (simp (disch := omega) only [h.num, h.tim, h.mod, h.act, h.akt, h.aks, h.f1, h.f2, h.f3, h.f4, h.f5, (h.pt hi).2.2.1, (h.pt hi).2.2.2.1, (h.pt hi).2.2.2.2.1, (h.pt hi).2.2.2.2.2.1, (h.pt hi).2.2.2.2.2.2.1, (h.pt hi).2.2.2.2.2.2.2.1, (h.pt hi).2.2.2.2.2.2.2.2.1, (h.pt hi).2.2.2.2.2.2.2.2.2.1]; done)) dX4_changeRoot_43 rfl ?_ | refine j_aaldS (pc' := 44) (by assumption) rfl (by omega) (by omega) (by assumption) dX4_changeRoot_43 rfl ?_
          refine j_getIv (pc' := 47) f_X4_98 (by assumption) (by first | (simp (disch := omega) only [jx_upS, jx_upK, jx_upA, h.num, h.tim, h.mod, h.act, h.akt, h.aks, h.f1, h.f2, h.f3, h.f4, h.f5, (h.pt hi).2.2.1, (h.pt hi).2.2.2.1, (h.pt hi).2.2.2.2.1, (h.pt hi).2.2.2.2.2.1, (h.pt hi).2.2.2.2.2.2.1, (h.pt hi).2.2.2.2.2.2.2.1, (h.pt hi).2.2.2.2.2.2.2.2.1, (h.pt hi).2.2.2.2.2.2.2.2.2.1]; rfl) | rfl) dX4_changeRoot_44 rfl ?_
          refine j_istore_n (pc' := 48) (lv' := [_, _, _, _]) dX4_changeRoot_47 rfl (by decide) rfl ?_
          refine j_aload_n (pc' := 49) dX4_changeRoot_48 rfl rfl ?_
          refine j_getR (pc' := 52) f_X4_11 (by assumption) (by assumption) dX4_changeRoot_49 rfl ?_
          refine j_iload_n (pc' := 53) dX4_changeRoot_52 rfl rfl ?_
          first | refine j_aaldP (pc' := 54) (by assumption) rfl (by omega) (by omega) (by first | assumption | (simp (disch := omega) only [h.num, h.tim, h.mod, h.act, h.akt, h.aks, h.f1, h.f2, h.f3, h.f4, h.f5, (h.pt hi).2.2.1, (h.pt hi).2.2.2.1, (h.pt hi).2.2.2.2.1, (h.pt hi).2.2.2.2.2.1, (h.pt hi).2.2.2.2.2.2.1, (h.pt hi).2.2.2.2.2.2.2.1, (h.pt hi).2.2.2.2.2.2.2.2.1, (h.pt hi).2.2.2.2.2.2.2.2.2.1]; done)) dX4_changeRoot_53 rfl ?_ | refine j_aaldS (pc' := 54) (by assumption) rfl (by omega) (by omega) (by assumption) dX4_changeRoot_53 rfl ?_
          refine j_iload_n (pc' := 55) dX4_changeRoot_54 rfl rfl ?_
          refine j_putI (pc' := 58) f_X4_98 (by assumption) rfl rfl dX4_changeRoot_55 rfl ?_
          refine j_iload_n (pc' := 59) dX4_changeRoot_58 rfl rfl ?_
          refine j_reti dX4_changeRoot_59 rfl (by first | rfl | exact bi_n _) ?_
          rw [if_pos ⟨hok, hy⟩, if_neg (of_decide_eq_false c31), if_pos ⟨⟨hok, hy⟩, of_decide_eq_false c31⟩, nI_clamp (show i < 2147483648 from by omega)]
          exact ⟨rfl, h.p4 hi (h.vi.root hi hy (of_decide_eq_false c31))⟩
        ·
          refine j_sipush (pc' := 37) (v := -20002) dX4_changeRoot_34 rfl rfl ?_
          refine j_reti dX4_changeRoot_37 rfl (by first | rfl | exact bi_n _) ?_
          rw [if_pos ⟨hok, hy⟩, if_pos (of_decide_eq_true c31), if_neg (fun z => z.2 (of_decide_eq_true c31))]
          exact ⟨rfl, h⟩
      ·
        refine j_sipush (pc' := 24) (v := -20001) dX4_changeRoot_21 rfl rfl ?_
        refine j_reti dX4_changeRoot_24 rfl (by first | rfl | exact bi_n _) ?_
        rw [if_neg (fun z => z.2.elim c10 (fun z => by rw [c18] at z; exact absurd z (by decide))), if_neg (fun z => (fun z => z.2.elim c10 (fun z => by rw [c18] at z; exact absurd z (by decide))) z.1)]
        exact ⟨rfl, h⟩

