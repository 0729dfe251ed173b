theorem anyUp_t (v : Nat → Int32) : ∀ (f : Nat) (x : Int32), anyUp v f x true = true := by
  intro f
  induction f with
  | zero => intro x; rfl
  | succ f ih =>
    intro x
    rw [anyUp]
    split
    · rfl
    · rw [Bool.true_or]; exact ih _
theorem okP_m1 {v : Nat → Int32} : okP v (-1) = false := decide_eq_false (fun z => absurd z.1 (by decide))
set_option maxRecDepth 100000 in
set_option maxHeartbeats 4000000 in
theorem lp_X4_hasRootInAlarm {E : jx_E} {l : Launch} {n : Nat} {kd : jx_K} {R : jx_R} {I0 I : jx_I} {q : Nat} {v : Nat → Int32} {k T S N : Nat} {p : Nat} {rk : Nat → Nat} (hs : sSt kd R q) (h : aS I0 I q v k T S N) (hrk : RK v k rk) : ∀ (f : Nat) (x : Int32), f ≤ 16 → rkUp k rk f x → jx_J E l cX4_hasRootInAlarm 4 (some .boolean) RX4 false (jx_rm 2) 0 0 (jx_Q0 n kd R (jx_Pi (fun r I' => r = bi (anyUp v f x false) ∧ I' = I))) 0 0 n kd R (I) 7 [some (.ref q), some (.ref p), some (.int x), some (.int (nI (16 - f)))] [] := by
  obtain ⟨K0, K1, R0, R1, R2, hF, hL, hP⟩ := id hs
  obtain ⟨FK0, FK1, FR0⟩ := id hF
  obtain ⟨LK0, LK1, LK2, LK3, LR0, LR1, LR2⟩ := id hL
  have h16 := h.vi.k16
  have hT1 := h.vi.tl
  have hS1 := h.vi.sl
  intro f
  induction f with
  | zero =>
    intro x hf hup
    refine j_iload_n (pc' := 8) dX4_hasRootInAlarm_7 rfl rfl ?_
    refine j_bipush (pc' := 10) (v := nI 16) dX4_hasRootInAlarm_8 rfl rfl ?_
    first | refine j_icmp_geN' (tgt := 51) (pc' := 13) (by with_reducible rfl) (by with_reducible rfl) (by omega) (by omega) dX4_hasRootInAlarm_10 rfl (by decide) (fun c10 => ?_) (fun c10 => ?_) | refine j_icmp_ge (tgt := 51) (pc' := 13) dX4_hasRootInAlarm_10 rfl (by decide) (fun c10 => ?_) (fun c10 => ?_)
    ·
      refine j_iconst (pc' := 52) (v := nI 0) dX4_hasRootInAlarm_51 rfl rfl ?_
      refine j_reti dX4_hasRootInAlarm_52 rfl (by first | rfl | exact bi_n _) ?_
      exact ⟨rfl, rfl⟩
    ·
      exact absurd c10 (by omega)
  | succ f ih0 =>
    intro x hf hup
    have ih := fun y => ih0 y (by omega)
    have e17 : 16 - (f + 1) + 1 = 16 - f := by omega
    rcases hup with rfl | ⟨j, hj, rfl, hrj⟩
    ·
      refine j_iload_n (pc' := 8) dX4_hasRootInAlarm_7 rfl rfl ?_
      refine j_bipush (pc' := 10) (v := nI 16) dX4_hasRootInAlarm_8 rfl rfl ?_
      first | refine j_icmp_geN' (tgt := 51) (pc' := 13) (by with_reducible rfl) (by with_reducible rfl) (by omega) (by omega) dX4_hasRootInAlarm_10 rfl (by decide) (fun c10 => ?_) (fun c10 => ?_) | refine j_icmp_ge (tgt := 51) (pc' := 13) dX4_hasRootInAlarm_10 rfl (by decide) (fun c10 => ?_) (fun c10 => ?_)
      ·
        exact absurd c10 (by omega)
      ·
        refine j_aload_n (pc' := 14) dX4_hasRootInAlarm_13 rfl rfl ?_
        refine j_iload_n (pc' := 15) dX4_hasRootInAlarm_14 rfl rfl ?_
        refine j_cVi (pc' := 18) m_X4_69 (c_X4_hasPoint hs h) (by assumption) (by decide) rfl rfl rfl ⟨Nat.le_of_ble_eq_true rfl, Nat.le_of_ble_eq_true rfl⟩ ⟨Nat.zero_le _, Nat.zero_le _⟩ (Nat.le_of_ble_eq_true rfl) dX4_hasRootInAlarm_15 rfl (fun x1 I1 hq => ?_)
        obtain ⟨rfl, rfl⟩ := hq
        first | refine j_if_eqB' (tgt := 51) (pc' := 21) (by with_reducible rfl) dX4_hasRootInAlarm_18 rfl (by decide) (fun c18 => ?_) (fun c18 => ?_) | refine j_if_eqN' (tgt := 51) (pc' := 21) (by with_reducible rfl) (by omega) dX4_hasRootInAlarm_18 rfl (by decide) (fun c18 => ?_) (fun c18 => ?_) | refine j_if_eq (tgt := 51) (pc' := 21) dX4_hasRootInAlarm_18 rfl (by decide) (fun c18 => ?_) (fun c18 => ?_)
        ·
          refine j_iconst (pc' := 52) (v := nI 0) dX4_hasRootInAlarm_51 rfl rfl ?_
          refine j_reti dX4_hasRootInAlarm_52 rfl (by first | rfl | exact bi_n _) ?_
          exact ⟨by rw [anyUp_n v _ _ _ m1_neg]; rfl, rfl⟩
        ·
          rw [okP_m1] at c18
          exact absurd c18 (by decide)
    ·
      obtain ⟨hRi, hPi⟩ := hP j (by omega)
      obtain ⟨P0, P1, P2, PR0, PR1⟩ := id hPi
      obtain ⟨b, hb⟩ := h.vi.al hj
      have hst : anyUp v (f + 1) (nI j) false = anyUp v f (v (176 + 56 * j + 8)) (decide (v (176 + 56 * j + 9) = nI 1)) := by
        rw [anyUp, if_neg (nI_pos (by omega)), nI_clamp (by omega), Bool.false_or]
      have hup : rkUp k rk f (v (176 + 56 * j + 8)) := by
        rcases (hrk j hj).2 with e | ⟨j2, h1, h2, h3⟩
        · exact Or.inl e
        · exact Or.inr ⟨j2, h1, h2, by omega⟩
      refine j_iload_n (pc' := 8) dX4_hasRootInAlarm_7 rfl rfl ?_
      refine j_bipush (pc' := 10) (v := nI 16) dX4_hasRootInAlarm_8 rfl rfl ?_
      first | refine j_icmp_geN' (tgt := 51) (pc' := 13) (by with_reducible rfl) (by with_reducible rfl) (by omega) (by omega) dX4_hasRootInAlarm_10 rfl (by decide) (fun c10 => ?_) (fun c10 => ?_) | refine j_icmp_ge (tgt := 51) (pc' := 13) dX4_hasRootInAlarm_10 rfl (by decide) (fun c10 => ?_) (fun c10 => ?_)
      ·
        exact absurd c10 (by omega)
      ·
        refine j_aload_n (pc' := 14) dX4_hasRootInAlarm_13 rfl rfl ?_
        refine j_iload_n (pc' := 15) dX4_hasRootInAlarm_14 rfl rfl ?_
        refine j_cVi (pc' := 18) m_X4_69 (c_X4_hasPoint hs h) (by assumption) (by decide) rfl rfl rfl ⟨Nat.le_of_ble_eq_true rfl, Nat.le_of_ble_eq_true rfl⟩ ⟨Nat.zero_le _, Nat.zero_le _⟩ (Nat.le_of_ble_eq_true rfl) dX4_hasRootInAlarm_15 rfl (fun x1 I1 hq => ?_)
        obtain ⟨rfl, rfl⟩ := hq
        first | refine j_if_eqB' (tgt := 51) (pc' := 21) (by with_reducible rfl) dX4_hasRootInAlarm_18 rfl (by decide) (fun c18 => ?_) (fun c18 => ?_) | refine j_if_eqN' (tgt := 51) (pc' := 21) (by with_reducible rfl) (by omega) dX4_hasRootInAlarm_18 rfl (by decide) (fun c18 => ?_) (fun c18 => ?_) | refine j_if_eq (tgt := 51) (pc' := 21) dX4_hasRootInAlarm_18 rfl (by decide) (fun c18 => ?_) (fun c18 => ?_)
        ·
          rw [okP_of h.vi.z h16 hj] at c18
          exact absurd c18 (by decide)
        ·
          refine j_aload_n (pc' := 22) dX4_hasRootInAlarm_21 rfl rfl ?_
          refine j_getR (pc' := 25) f_X4_11 (by assumption) (by assumption) dX4_hasRootInAlarm_22 rfl ?_
          refine j_iload_n (pc' := 26) dX4_hasRootInAlarm_25 rfl rfl ?_
          first | refine j_aaldP (pc' := 27) (by assumption) rfl (by omega) (by omega) (by first | assumption | (simp (disch := omega) only [h.num, h.tim, h.mod, h.act, h.akt, h.aks, h.f1, h.f2, h.f3, h.f4, h.f5, hb, (h.pt hj).2.2.1, (h.pt hj).2.2.2.1, (h.pt hj).2.2.2.2.1, (h.pt hj).2.2.2.2.2.1, (h.pt hj).2.2.2.2.2.2.1, (h.pt hj).2.2.2.2.2.2.2.1, (h.pt hj).2.2.2.2.2.2.2.2.1, (h.pt hj).2.2.2.2.2.2.2.2.2.1]; done)) dX4_hasRootInAlarm_26 rfl ?_ | refine j_aaldS (pc' := 27) (by assumption) rfl (by omega) (by omega) (by assumption) dX4_hasRootInAlarm_26 rfl ?_
          refine j_getIv (pc' := 30) f_X4_137 (by assumption) (by first | (simp (disch := omega) only [jx_upS, jx_upK, jx_upA, h.num, h.tim, h.mod, h.act, h.akt, h.aks, h.f1, h.f2, h.f3, h.f4, h.f5, hb, (h.pt hj).2.2.1, (h.pt hj).2.2.2.1, (h.pt hj).2.2.2.2.1, (h.pt hj).2.2.2.2.2.1, (h.pt hj).2.2.2.2.2.2.1, (h.pt hj).2.2.2.2.2.2.2.1, (h.pt hj).2.2.2.2.2.2.2.2.1, (h.pt hj).2.2.2.2.2.2.2.2.2.1]; rfl) | rfl) dX4_hasRootInAlarm_27 rfl ?_
          first | refine j_if_eqB' (tgt := 35) (pc' := 33) (by with_reducible rfl) dX4_hasRootInAlarm_30 rfl (by decide) (fun c30 => ?_) (fun c30 => ?_) | refine j_if_eqN' (tgt := 35) (pc' := 33) (by with_reducible rfl) (by omega) dX4_hasRootInAlarm_30 rfl (by decide) (fun c30 => ?_) (fun c30 => ?_) | refine j_if_eq (tgt := 35) (pc' := 33) dX4_hasRootInAlarm_30 rfl (by decide) (fun c30 => ?_) (fun c30 => ?_)
          ·
            refine j_aload_n (pc' := 36) dX4_hasRootInAlarm_35 rfl rfl ?_
            refine j_getR (pc' := 39) f_X4_11 (by assumption) (by assumption) dX4_hasRootInAlarm_36 rfl ?_
            refine j_iload_n (pc' := 40) dX4_hasRootInAlarm_39 rfl rfl ?_
            first | refine j_aaldP (pc' := 41) (by assumption) rfl (by omega) (by omega) (by first | assumption | (simp (disch := omega) only [h.num, h.tim, h.mod, h.act, h.akt, h.aks, h.f1, h.f2, h.f3, h.f4, h.f5, hb, (h.pt hj).2.2.1, (h.pt hj).2.2.2.1, (h.pt hj).2.2.2.2.1, (h.pt hj).2.2.2.2.2.1, (h.pt hj).2.2.2.2.2.2.1, (h.pt hj).2.2.2.2.2.2.2.1, (h.pt hj).2.2.2.2.2.2.2.2.1, (h.pt hj).2.2.2.2.2.2.2.2.2.1]; done)) dX4_hasRootInAlarm_40 rfl ?_ | refine j_aaldS (pc' := 41) (by assumption) rfl (by omega) (by omega) (by assumption) dX4_hasRootInAlarm_40 rfl ?_
            refine j_getIv (pc' := 44) f_X4_98 (by assumption) (by first | (simp (disch := omega) only [jx_upS, jx_upK, jx_upA, h.num, h.tim, h.mod, h.act, h.akt, h.aks, h.f1, h.f2, h.f3, h.f4, h.f5, hb, (h.pt hj).2.2.1, (h.pt hj).2.2.2.1, (h.pt hj).2.2.2.2.1, (h.pt hj).2.2.2.2.2.1, (h.pt hj).2.2.2.2.2.2.1, (h.pt hj).2.2.2.2.2.2.2.1, (h.pt hj).2.2.2.2.2.2.2.2.1, (h.pt hj).2.2.2.2.2.2.2.2.2.1]; rfl) | rfl) dX4_hasRootInAlarm_41 rfl ?_
            refine j_istore_n (pc' := 45) (lv' := [_, _, _, _]) dX4_hasRootInAlarm_44 rfl (by decide) rfl ?_
            first | refine j_iincN (pc' := 48) (lv' := [_, _, _, _]) dX4_hasRootInAlarm_45 rfl rfl (by decide) rfl ?_ | refine j_iinc (pc' := 48) (lv' := [_, _, _, _]) dX4_hasRootInAlarm_45 rfl rfl rfl (by decide) rfl ?_
            refine j_goto (tgt := 7) dX4_hasRootInAlarm_48 (by decide) ?_
            subst c30
            rw [hst, e17]
            have e9 : decide (v (176 + 56 * j + 9) = nI 1) = false := by rw [hb]; rfl
            rw [e9]
            exact ih _ hup
          ·
            refine j_iconst (pc' := 34) (v := nI 1) dX4_hasRootInAlarm_33 rfl rfl ?_
            refine j_reti dX4_hasRootInAlarm_34 rfl (by first | rfl | exact bi_n _) ?_
            subst c30
            refine ⟨?_, rfl⟩
            rw [hst, hb]
            exact congrArg bi (anyUp_t v _ _).symm
set_option maxRecDepth 100000 in
set_option maxHeartbeats 4000000 in
theorem c_X4_hasRootInAlarm {E : jx_E} {l : Launch} {n : Nat} {kd : jx_K} {R : jx_R} {I0 I : jx_I} {q : Nat} {v : Nat → Int32} {k T S N : Nat} {i : Nat} {rk : Nat → Nat} (hs : sSt kd R q) (h : aS I0 I q v k T S N) (hi : i < k) (hrk : RK v k rk) : jx_Ci E l yX4_hasRootInAlarm cX4_hasRootInAlarm 4 (some .boolean) 2 n kd R (I) [.ref q, .ref (q + 8 + 3 * i)] (fun r I' => r = (bi (anyUp v 16 (v (176 + 56 * i + 8)) false)) ∧ I' = I) := by
  obtain ⟨K0, K1, R0, R1, R2, hF, hL, hP⟩ := id hs
  obtain ⟨FK0, FK1, FR0⟩ := id hF
  obtain ⟨LK0, LK1, LK2, LK3, LR0, LR1, LR2⟩ := id hL
  have h16 := h.vi.k16
  have hT1 := h.vi.tl
  have hS1 := h.vi.sl
  obtain ⟨hRi, hPi⟩ := hP i (by omega)
  obtain ⟨P0, P1, P2, PR0, PR1⟩ := id hPi
  refine jx_C0.ofJ RX4 [some (.ref q), some (.ref (q + 8 + 3 * i)), none, none] (by decide) rfl rfl (Nat.le_of_ble_eq_true rfl) rfl ?_
  refine j_aload_n (pc' := 1) dX4_hasRootInAlarm_0 rfl rfl ?_
  refine j_getIv (pc' := 4) f_X4_98 (by assumption) (by first | (simp (disch := omega) only [jx_upS, jx_upK, jx_upA, h.num, h.tim, h.mod, h.act, h.akt, h.aks, h.f1, h.f2, h.f3, h.f4, h.f5, (h.pt hi).2.2.1, (h.pt hi).2.2.2.1, (h.pt hi).2.2.2.2.1, (h.pt hi).2.2.2.2.2.1, (h.pt hi).2.2.2.2.2.2.1, (h.pt hi).2.2.2.2.2.2.2.1, (h.pt hi).2.2.2.2.2.2.2.2.1, (h.pt hi).2.2.2.2.2.2.2.2.2.1]; rfl) | rfl) dX4_hasRootInAlarm_1 rfl ?_
  refine j_istore_n (pc' := 5) (lv' := [_, _, _, _]) dX4_hasRootInAlarm_4 rfl (by decide) rfl ?_
  refine j_iconst (pc' := 6) (v := nI 0) dX4_hasRootInAlarm_5 rfl rfl ?_
  refine j_istore_n (pc' := 7) (lv' := [_, _, _, _]) dX4_hasRootInAlarm_6 rfl (by decide) rfl ?_
  exact lp_X4_hasRootInAlarm hs h hrk 16 _ (Nat.le_refl _) (by
    rcases (hrk i hi).2 with e | ⟨j2, h1, h2, h3⟩
    · exact Or.inl e
    · exact Or.inr ⟨j2, h1, h2, (by have := (hrk j2 h1).1; exact this)⟩)

def flB (v : Nat → Int32) (i : Nat) : Bool := if v 3 = nI 1 then if v (176 + 56 * i + 12) < v 4 then false else if v (176 + 56 * i + 5) ≤ nI 2 then false else true else false
theorem lt3 {x : Int32} : x < nI 3 ↔ x ≤ nI 2 := by
  have a : (nI 3).toInt = 3 := by decide
  have b : (nI 2).toInt = 2 := by decide
  rw [Int32.lt_iff_toInt_lt, Int32.le_iff_toInt_le, a, b]; omega
set_option maxRecDepth 100000 in
set_option maxHeartbeats 4000000 in
theorem c_X4_isFlooded {E : jx_E} {l : Launch} {n : Nat} {kd : jx_K} {R : jx_R} {I0 I : jx_I} {q : Nat} {v : Nat → Int32} {k T S N : Nat} {i : Nat} {b : Bool} (hs : sSt kd R q) (h : aS I0 I q v k T S N) (hi : i < k) (hb : v 3 = bi b) : jx_Ci E l yX4_isFlooded cX4_isFlooded 2 (some .boolean) 0 n kd R (I) [.ref q, .ref (q + 8 + 3 * i)] (fun r I' => r = (bi (flB v i)) ∧ I' = I) := by
  obtain ⟨K0, K1, R0, R1, R2, hF, hL, hP⟩ := id hs
  obtain ⟨FK0, FK1, FR0⟩ := id hF
  obtain ⟨LK0, LK1, LK2, LK3, LR0, LR1, LR2⟩ := id hL
  have h16 := h.vi.k16
  have hT1 := h.vi.tl
  have hS1 := h.vi.sl
  obtain ⟨hRi, hPi⟩ := hP i (by omega)
  obtain ⟨P0, P1, P2, PR0, PR1⟩ := id hPi
  refine jx_C0.ofJ RX4 [some (.ref q), some (.ref (q + 8 + 3 * i))] (by decide) rfl rfl (Nat.le_of_ble_eq_true rfl) rfl ?_
  refine j_aload_n (pc' := 1) dX4_isFlooded_0 rfl rfl ?_
  refine j_getR (pc' := 4) f_X4_20 (by assumption) (by assumption) dX4_isFlooded_1 rfl ?_
  refine j_getIv (pc' := 7) f_X4_166 (by assumption) (by first | (simp (disch := omega) only [jx_upS, jx_upK, jx_upA, h.num, h.tim, h.mod, h.act, h.akt, h.aks, h.f1, h.f2, h.f3, h.f4, h.f5, hb, (h.pt hi).1 5 (by decide), (h.pt hi).2.2.1, (h.pt hi).2.2.2.1, (h.pt hi).2.2.2.2.1, (h.pt hi).2.2.2.2.2.1, (h.pt hi).2.2.2.2.2.2.1, (h.pt hi).2.2.2.2.2.2.2.1, (h.pt hi).2.2.2.2.2.2.2.2.1, (h.pt hi).2.2.2.2.2.2.2.2.2.1]; rfl) | rfl) dX4_isFlooded_4 rfl ?_
  first | refine j_if_eqB' (tgt := 38) (pc' := 10) (by with_reducible rfl) dX4_isFlooded_7 rfl (by decide) (fun c7 => ?_) (fun c7 => ?_) | refine j_if_eqN' (tgt := 38) (pc' := 10) (by with_reducible rfl) (by omega) dX4_isFlooded_7 rfl (by decide) (fun c7 => ?_) (fun c7 => ?_) | refine j_if_eq (tgt := 38) (pc' := 10) dX4_isFlooded_7 rfl (by decide) (fun c7 => ?_) (fun c7 => ?_)
  ·
    refine j_iconst (pc' := 39) (v := nI 0) dX4_isFlooded_38 rfl rfl ?_
    refine j_reti dX4_isFlooded_39 rfl (by first | rfl | exact bi_n _) ?_
    refine ⟨?_, rfl⟩
    unfold flB
    rw [hb]
    subst c7
    rw [if_neg (by decide)]
    rfl
  ·
    refine j_aload_n (pc' := 11) dX4_isFlooded_10 rfl rfl ?_
    refine j_getIv (pc' := 14) f_X4_155 (by assumption) (by first | (simp (disch := omega) only [jx_upS, jx_upK, jx_upA, h.num, h.tim, h.mod, h.act, h.akt, h.aks, h.f1, h.f2, h.f3, h.f4, h.f5, hb, (h.pt hi).1 5 (by decide), (h.pt hi).2.2.1, (h.pt hi).2.2.2.1, (h.pt hi).2.2.2.2.1, (h.pt hi).2.2.2.2.2.1, (h.pt hi).2.2.2.2.2.2.1, (h.pt hi).2.2.2.2.2.2.2.1, (h.pt hi).2.2.2.2.2.2.2.2.1, (h.pt hi).2.2.2.2.2.2.2.2.2.1]; rfl) | rfl) dX4_isFlooded_11 rfl ?_
    refine j_aload_n (pc' := 15) dX4_isFlooded_14 rfl rfl ?_
    refine j_getR (pc' := 18) f_X4_20 (by assumption) (by assumption) dX4_isFlooded_15 rfl ?_
    refine j_getIv (pc' := 21) f_X4_169 (by assumption) (by first | (simp (disch := omega) only [jx_upS, jx_upK, jx_upA, h.num, h.tim, h.mod, h.act, h.akt, h.aks, h.f1, h.f2, h.f3, h.f4, h.f5, hb, (h.pt hi).1 5 (by decide), (h.pt hi).2.2.1, (h.pt hi).2.2.2.1, (h.pt hi).2.2.2.2.1, (h.pt hi).2.2.2.2.2.1, (h.pt hi).2.2.2.2.2.2.1, (h.pt hi).2.2.2.2.2.2.2.1, (h.pt hi).2.2.2.2.2.2.2.2.1, (h.pt hi).2.2.2.2.2.2.2.2.2.1]; rfl) | rfl) dX4_isFlooded_18 rfl ?_
    first | refine j_icmp_ltN' (tgt := 38) (pc' := 24) (by with_reducible rfl) (by with_reducible rfl) (by omega) (by omega) dX4_isFlooded_21 rfl (by decide) (fun c21 => ?_) (fun c21 => ?_) | refine j_icmp_lt (tgt := 38) (pc' := 24) dX4_isFlooded_21 rfl (by decide) (fun c21 => ?_) (fun c21 => ?_)
    ·
      refine j_iconst (pc' := 39) (v := nI 0) dX4_isFlooded_38 rfl rfl ?_
      refine j_reti dX4_isFlooded_39 rfl (by first | rfl | exact bi_n _) ?_
      refine ⟨?_, rfl⟩
      unfold flB
      rw [hb]
      subst c7
      rw [if_pos (show bi true = nI 1 from rfl)]
      rw [if_pos c21]; rfl
    ·
      refine j_aload_n (pc' := 25) dX4_isFlooded_24 rfl rfl ?_
      refine j_getR (pc' := 28) f_X4_80 (by assumption) (by assumption) dX4_isFlooded_25 rfl ?_
      refine j_iconst (pc' := 29) (v := nI 5) dX4_isFlooded_28 rfl rfl ?_
      refine j_ialdv (pc' := 30) (by assumption) rfl (by omega) (by omega) (by first | (simp (disch := omega) only [jx_upS, jx_upK, jx_upA, h.num, h.tim, h.mod, h.act, h.akt, h.aks, h.f1, h.f2, h.f3, h.f4, h.f5, hb, (h.pt hi).1 5 (by decide), (h.pt hi).2.2.1, (h.pt hi).2.2.2.1, (h.pt hi).2.2.2.2.1, (h.pt hi).2.2.2.2.2.1, (h.pt hi).2.2.2.2.2.2.1, (h.pt hi).2.2.2.2.2.2.2.1, (h.pt hi).2.2.2.2.2.2.2.2.1, (h.pt hi).2.2.2.2.2.2.2.2.2.1]; rfl) | rfl) dX4_isFlooded_29 rfl ?_
      refine j_iconst (pc' := 31) (v := nI 3) dX4_isFlooded_30 rfl rfl ?_
      first | refine j_icmp_ltN' (tgt := 38) (pc' := 34) (by with_reducible rfl) (by with_reducible rfl) (by omega) (by omega) dX4_isFlooded_31 rfl (by decide) (fun c31 => ?_) (fun c31 => ?_) | refine j_icmp_lt (tgt := 38) (pc' := 34) dX4_isFlooded_31 rfl (by decide) (fun c31 => ?_) (fun c31 => ?_)
      ·
        refine j_iconst (pc' := 39) (v := nI 0) dX4_isFlooded_38 rfl rfl ?_
        refine j_reti dX4_isFlooded_39 rfl (by first | rfl | exact bi_n _) ?_
        refine ⟨?_, rfl⟩
        unfold flB
        rw [hb]
        subst c7
        rw [if_pos (show bi true = nI 1 from rfl)]
        rw [if_neg c21, if_pos (lt3.mp c31)]; rfl
      ·
        skip
        refine j_iconst (pc' := 35) (v := nI 1) dX4_isFlooded_34 rfl rfl ?_
        refine j_goto (tgt := 39) dX4_isFlooded_35 (by decide) ?_
        refine j_reti dX4_isFlooded_39 rfl (by first | rfl | exact bi_n _) ?_
        refine ⟨?_, rfl⟩
        unfold flB
        rw [hb]
        subst c7
        rw [if_pos (show bi true = nI 1 from rfl)]
        rw [if_neg c21, if_neg (fun z => c31 (lt3.mpr z))]; rfl

set_option maxRecDepth 100000 in
set_option maxHeartbeats 4000000 in
theorem c_X4_whyHidden {E : jx_E} {l : Launch} {n : Nat} {kd : jx_K} {R : jx_R} {I0 I : jx_I} {q : Nat} {v : Nat → Int32} {k T S N : Nat} {i : Nat} {rk : Nat → Nat} (hs : sSt kd R q) (h : aS I0 I q v k T S N) (hi : i < k) (hrk : RK v k rk) : jx_Ci E l yX4_whyHidden cX4_whyHidden 3 (some .int) 3 n kd R (I) [.ref q, .int (nI i)] (fun r I' => r = (sWhy v i) ∧ I' = I) := by
  obtain ⟨K0, K1, R0, R1, R2, hF, hL, hP⟩ := id hs
  obtain ⟨FK0, FK1, FR0⟩ := id hF
  obtain ⟨LK0, LK1, LK2, LK3, LR0, LR1, LR2⟩ := id hL
  have h16 := h.vi.k16
  have hT1 := h.vi.tl
  have hS1 := h.vi.sl
  obtain ⟨hRi, hPi⟩ := hP i (by omega)
  obtain ⟨P0, P1, P2, PR0, PR1⟩ := id hPi
  obtain ⟨b9, ha⟩ := h.vi.al hi
  obtain ⟨b10, hb⟩ := h.vi.ak hi
  obtain ⟨b3, hf⟩ := h.vi.f
  refine jx_C0.ofJ RX4 [some (.ref q), some (.int (nI i)), none] (by decide) rfl rfl (Nat.le_of_ble_eq_true rfl) rfl ?_
  refine j_aload_n (pc' := 1) dX4_whyHidden_0 rfl rfl ?_
  refine j_getR (pc' := 4) f_X4_11 (by assumption) (by assumption) dX4_whyHidden_1 rfl ?_
  refine j_iload_n (pc' := 5) dX4_whyHidden_4 rfl rfl ?_
  first | refine j_aaldP (pc' := 6) (by assumption) rfl (by omega) (by omega) (by first | assumption | (simp (disch := omega) only [h.num, h.tim, h.mod, h.act, h.akt, h.aks, h.f1, h.f2, h.f3, h.f4, h.f5, (h.pt hi).1 6 (by decide)]; done)) dX4_whyHidden_5 rfl ?_ | refine j_aaldS (pc' := 6) (by assumption) rfl (by omega) (by omega) (by assumption) dX4_whyHidden_5 rfl ?_
  refine j_astore_n (pc' := 7) (lv' := [_, _, _]) dX4_whyHidden_6 rfl (by decide) rfl ?_
  refine j_aload_n (pc' := 8) dX4_whyHidden_7 rfl rfl ?_
  refine j_cVi (pc' := 11) m_X4_178 (c_X2_stands hPi (h.pt hi) ha hb) (by assumption) (by decide) rfl rfl rfl ⟨Nat.le_of_ble_eq_true rfl, Nat.le_of_ble_eq_true rfl⟩ ⟨Nat.zero_le _, Nat.zero_le _⟩ (Nat.le_of_ble_eq_true rfl) dX4_whyHidden_8 rfl (fun x1 I1 hq => ?_)
  obtain ⟨rfl, rfl⟩ := hq
  first | refine j_if_neB' (tgt := 18) (pc' := 14) (by with_reducible rfl) dX4_whyHidden_11 rfl (by decide) (fun c11 => ?_) (fun c11 => ?_) | refine j_if_neN' (tgt := 18) (pc' := 14) (by with_reducible rfl) (by omega) dX4_whyHidden_11 rfl (by decide) (fun c11 => ?_) (fun c11 => ?_) | refine j_if_ne (tgt := 18) (pc' := 14) dX4_whyHidden_11 rfl (by decide) (fun c11 => ?_) (fun c11 => ?_)
  ·
    refine j_aload_n (pc' := 19) dX4_whyHidden_18 rfl rfl ?_
    refine j_cVi (pc' := 22) m_X4_87 (c_X2_isShelved hPi (h.pt hi)) (by assumption) (by decide) rfl rfl rfl ⟨Nat.le_of_ble_eq_true rfl, Nat.le_of_ble_eq_true rfl⟩ ⟨Nat.zero_le _, Nat.zero_le _⟩ (Nat.le_of_ble_eq_true rfl) dX4_whyHidden_19 rfl (fun x1 I1 hq => ?_)
    obtain ⟨rfl, rfl⟩ := hq
    first | refine j_if_eqB' (tgt := 27) (pc' := 25) (by with_reducible rfl) dX4_whyHidden_22 rfl (by decide) (fun c22 => ?_) (fun c22 => ?_) | refine j_if_eqN' (tgt := 27) (pc' := 25) (by with_reducible rfl) (by omega) dX4_whyHidden_22 rfl (by decide) (fun c22 => ?_) (fun c22 => ?_) | refine j_if_eq (tgt := 27) (pc' := 25) dX4_whyHidden_22 rfl (by decide) (fun c22 => ?_) (fun c22 => ?_)
    ·
      refine j_aload_n (pc' := 28) dX4_whyHidden_27 rfl rfl ?_
      refine j_cVi (pc' := 31) m_X4_83 (c_X2_hasHighestPriority hPi (h.pt hi)) (by assumption) (by decide) rfl rfl rfl ⟨Nat.le_of_ble_eq_true rfl, Nat.le_of_ble_eq_true rfl⟩ ⟨Nat.zero_le _, Nat.zero_le _⟩ (Nat.le_of_ble_eq_true rfl) dX4_whyHidden_28 rfl (fun x1 I1 hq => ?_)
      obtain ⟨rfl, rfl⟩ := hq
      first | refine j_if_eqB' (tgt := 36) (pc' := 34) (by with_reducible rfl) dX4_whyHidden_31 rfl (by decide) (fun c31 => ?_) (fun c31 => ?_) | refine j_if_eqN' (tgt := 36) (pc' := 34) (by with_reducible rfl) (by omega) dX4_whyHidden_31 rfl (by decide) (fun c31 => ?_) (fun c31 => ?_) | refine j_if_eq (tgt := 36) (pc' := 34) dX4_whyHidden_31 rfl (by decide) (fun c31 => ?_) (fun c31 => ?_)
      ·
        refine j_aload_n (pc' := 37) dX4_whyHidden_36 rfl rfl ?_
        refine j_getR (pc' := 40) f_X4_80 (by assumption) (by assumption) dX4_whyHidden_37 rfl ?_
        refine j_bipush (pc' := 42) (v := nI 6) dX4_whyHidden_40 rfl rfl ?_
        refine j_ialdv (pc' := 43) (by assumption) rfl (by omega) (by omega) (by first | (simp (disch := omega) only [jx_upS, jx_upK, jx_upA, h.num, h.tim, h.mod, h.act, h.akt, h.aks, h.f1, h.f2, h.f3, h.f4, h.f5, (h.pt hi).1 6 (by decide)]; rfl) | rfl) dX4_whyHidden_42 rfl ?_
        refine j_aload_n (pc' := 44) dX4_whyHidden_43 rfl rfl ?_
        refine j_getIv (pc' := 47) f_X4_49 (by assumption) (by first | (simp (disch := omega) only [jx_upS, jx_upK, jx_upA, h.num, h.tim, h.mod, h.act, h.akt, h.aks, h.f1, h.f2, h.f3, h.f4, h.f5, (h.pt hi).1 6 (by decide)]; rfl) | rfl) dX4_whyHidden_44 rfl ?_
        refine j_ishr (pc' := 48) dX4_whyHidden_47 rfl ?_
        refine j_iconst (pc' := 49) (v := nI 1) dX4_whyHidden_48 rfl rfl ?_
        refine j_iand (pc' := 50) dX4_whyHidden_49 rfl ?_
        refine j_iconst (pc' := 51) (v := nI 1) dX4_whyHidden_50 rfl rfl ?_
        first | refine j_icmp_neN' (tgt := 56) (pc' := 54) (by with_reducible rfl) (by with_reducible rfl) (by omega) (by omega) dX4_whyHidden_51 rfl (by decide) (fun c51 => ?_) (fun c51 => ?_) | refine j_icmp_ne (tgt := 56) (pc' := 54) dX4_whyHidden_51 rfl (by decide) (fun c51 => ?_) (fun c51 => ?_)
        ·
          refine j_aload_n (pc' := 57) dX4_whyHidden_56 rfl rfl ?_
          refine j_aload_n (pc' := 58) dX4_whyHidden_57 rfl rfl ?_
          refine j_cVi (pc' := 61) m_X4_181 (c_X4_hasRootInAlarm hs h hi hrk) (by assumption) (by decide) rfl rfl rfl ⟨Nat.le_of_ble_eq_true rfl, Nat.le_of_ble_eq_true rfl⟩ ⟨Nat.zero_le _, Nat.zero_le _⟩ (Nat.le_of_ble_eq_true rfl) dX4_whyHidden_58 rfl (fun x1 I1 hq => ?_)
          obtain ⟨rfl, rfl⟩ := hq
          first | refine j_if_eqB' (tgt := 66) (pc' := 64) (by with_reducible rfl) dX4_whyHidden_61 rfl (by decide) (fun c61 => ?_) (fun c61 => ?_) | refine j_if_eqN' (tgt := 66) (pc' := 64) (by with_reducible rfl) (by omega) dX4_whyHidden_61 rfl (by decide) (fun c61 => ?_) (fun c61 => ?_) | refine j_if_eq (tgt := 66) (pc' := 64) dX4_whyHidden_61 rfl (by decide) (fun c61 => ?_) (fun c61 => ?_)
          ·
            refine j_aload_n (pc' := 67) dX4_whyHidden_66 rfl rfl ?_
            refine j_aload_n (pc' := 68) dX4_whyHidden_67 rfl rfl ?_
            refine j_cVi (pc' := 71) m_X4_185 (c_X4_isFlooded hs h hi hf) (by assumption) (by decide) rfl rfl rfl ⟨Nat.le_of_ble_eq_true rfl, Nat.le_of_ble_eq_true rfl⟩ ⟨Nat.zero_le _, Nat.zero_le _⟩ (Nat.le_of_ble_eq_true rfl) dX4_whyHidden_68 rfl (fun x1 I1 hq => ?_)
            obtain ⟨rfl, rfl⟩ := hq
            first | refine j_if_eqB' (tgt := 78) (pc' := 74) (by with_reducible rfl) dX4_whyHidden_71 rfl (by decide) (fun c71 => ?_) (fun c71 => ?_) | refine j_if_eqN' (tgt := 78) (pc' := 74) (by with_reducible rfl) (by omega) dX4_whyHidden_71 rfl (by decide) (fun c71 => ?_) (fun c71 => ?_) | refine j_if_eq (tgt := 78) (pc' := 74) dX4_whyHidden_71 rfl (by decide) (fun c71 => ?_) (fun c71 => ?_)
            ·
              refine j_iconst (pc' := 79) (v := nI 0) dX4_whyHidden_78 rfl rfl ?_
              refine j_reti dX4_whyHidden_79 rfl (by first | rfl | exact bi_n _) ?_
              refine ⟨?_, rfl⟩
              unfold sWhy
              rw [if_pos c11, if_pos (Int32.not_lt.mp (of_decide_eq_false c22)), if_neg (of_decide_eq_false c31), if_neg c51, if_neg (by rw [c61]; decide)]
              unfold flB at c71
              split at c71
              · rename_i h1
                rw [if_pos h1]
                split at c71
                · rename_i h2
                  rw [if_pos h2]
                · rename_i h2
                  rw [if_neg h2]
                  split at c71
                  · rename_i h3
                    rw [if_pos h3]
                  · exact absurd c71 (by decide)
              · rename_i h1
                rw [if_neg h1]
            ·
              skip
              refine j_iconst (pc' := 75) (v := nI 4) dX4_whyHidden_74 rfl rfl ?_
              refine j_goto (tgt := 79) dX4_whyHidden_75 (by decide) ?_
              refine j_reti dX4_whyHidden_79 rfl (by first | rfl | exact bi_n _) ?_
              refine ⟨?_, rfl⟩
              unfold sWhy
              rw [if_pos c11, if_pos (Int32.not_lt.mp (of_decide_eq_false c22)), if_neg (of_decide_eq_false c31), if_neg c51, if_neg (by rw [c61]; decide)]
              unfold flB at c71
              split at c71
              · rename_i h1
                rw [if_pos h1]
                split at c71
                · exact absurd c71 (by decide)
                · rename_i h2
                  rw [if_neg h2]
                  split at c71
                  · exact absurd c71 (by decide)
                  · rename_i h3
                    rw [if_neg h3]
              · exact absurd c71 (by decide)
          ·
            refine j_iconst (pc' := 65) (v := nI 3) dX4_whyHidden_64 rfl rfl ?_
            refine j_reti dX4_whyHidden_65 rfl (by first | rfl | exact bi_n _) ?_
            refine ⟨?_, rfl⟩
            unfold sWhy
            rw [if_pos c11, if_pos (Int32.not_lt.mp (of_decide_eq_false c22)), if_neg (of_decide_eq_false c31), if_neg c51, if_pos c61]
        ·
          refine j_iconst (pc' := 55) (v := nI 2) dX4_whyHidden_54 rfl rfl ?_
          refine j_reti dX4_whyHidden_55 rfl (by first | rfl | exact bi_n _) ?_
          refine ⟨?_, rfl⟩
          unfold sWhy
          rw [if_pos c11, if_pos (Int32.not_lt.mp (of_decide_eq_false c22)), if_neg (of_decide_eq_false c31), if_pos c51]
      ·
        refine j_iconst (pc' := 35) (v := nI 0) dX4_whyHidden_34 rfl rfl ?_
        refine j_reti dX4_whyHidden_35 rfl (by first | rfl | exact bi_n _) ?_
        refine ⟨?_, rfl⟩
        unfold sWhy
        rw [if_pos c11, if_pos (Int32.not_lt.mp (of_decide_eq_false c22)), if_pos (of_decide_eq_true c31)]
    ·
      refine j_iconst (pc' := 26) (v := nI 1) dX4_whyHidden_25 rfl rfl ?_
      refine j_reti dX4_whyHidden_26 rfl (by first | rfl | exact bi_n _) ?_
      refine ⟨?_, rfl⟩
      unfold sWhy
      rw [if_pos c11, if_neg (Int32.not_le.mpr (of_decide_eq_true c22))]
  ·
    refine j_sipush (pc' := 17) (v := -20009) dX4_whyHidden_14 rfl rfl ?_
    refine j_reti dX4_whyHidden_17 rfl (by first | rfl | exact bi_n _) ?_
    refine ⟨?_, rfl⟩
    unfold sWhy
    rw [if_neg (by rw [c11]; decide)]

set_option maxRecDepth 100000 in
set_option maxHeartbeats 4000000 in
theorem c_X4_pointNumber {E : jx_E} {l : Launch} {n : Nat} {kd : jx_K} {R : jx_R} {I0 I : jx_I} {q : Nat} {v : Nat → Int32} {k T S N : Nat} {i w : Nat} {rk : Nat → Nat} (hs : sSt kd R q) (h : aS I0 I q v k T S N) (hi : i < k) (hrk : RK v k rk) (hw : w < 16) : jx_Ci E l yX4_pointNumber cX4_pointNumber 3 (some .int) 4 n kd R (I) [.ref q, .int (nI i), .int (nI w)] (fun r I' => r = (tol v i w) ∧ I' = I) := by
  obtain ⟨K0, K1, R0, R1, R2, hF, hL, hP⟩ := id hs
  obtain ⟨FK0, FK1, FR0⟩ := id hF
  obtain ⟨LK0, LK1, LK2, LK3, LR0, LR1, LR2⟩ := id hL
  have h16 := h.vi.k16
  have hT1 := h.vi.tl
  have hS1 := h.vi.sl
  obtain ⟨hRi, hPi⟩ := hP i (by omega)
  obtain ⟨P0, P1, P2, PR0, PR1⟩ := id hPi
  obtain ⟨b9, ha⟩ := h.vi.al hi
  obtain ⟨b10, hb⟩ := h.vi.ak hi
  refine jx_C0.ofJ RX4 [some (.ref q), some (.int (nI i)), some (.int (nI w))] (by decide) rfl rfl (Nat.le_of_ble_eq_true rfl) rfl ?_
  refine j_iload_n (pc' := 1) dX4_pointNumber_0 rfl rfl ?_
  refine j_bipush (pc' := 3) (v := nI 15) dX4_pointNumber_1 rfl rfl ?_
  first | refine j_icmp_neN' (tgt := 14) (pc' := 6) (by with_reducible rfl) (by with_reducible rfl) (by omega) (by omega) dX4_pointNumber_3 rfl (by decide) (fun c3 => ?_) (fun c3 => ?_) | refine j_icmp_ne (tgt := 14) (pc' := 6) dX4_pointNumber_3 rfl (by decide) (fun c3 => ?_) (fun c3 => ?_)
  ·
    refine j_aload_n (pc' := 15) dX4_pointNumber_14 rfl rfl ?_
    refine j_getR (pc' := 18) f_X4_11 (by assumption) (by assumption) dX4_pointNumber_15 rfl ?_
    refine j_iload_n (pc' := 19) dX4_pointNumber_18 rfl rfl ?_
    first | refine j_aaldP (pc' := 20) (by assumption) rfl (by omega) (by omega) (by first | assumption | (simp (disch := omega) only [h.num, h.tim, h.mod, h.act, h.akt, h.aks, h.f1, h.f2, h.f3, h.f4, h.f5]; done)) dX4_pointNumber_19 rfl ?_ | refine j_aaldS (pc' := 20) (by assumption) rfl (by omega) (by omega) (by assumption) dX4_pointNumber_19 rfl ?_
    refine j_iload_n (pc' := 21) dX4_pointNumber_20 rfl rfl ?_
    refine j_cVi (pc' := 24) m_X4_175 (c_X2_ownNumber hPi (h.pt hi) ha hb (by omega)) (by assumption) (by decide) rfl rfl rfl ⟨Nat.le_of_ble_eq_true rfl, Nat.le_of_ble_eq_true rfl⟩ ⟨Nat.zero_le _, Nat.zero_le _⟩ (Nat.le_of_ble_eq_true rfl) dX4_pointNumber_21 rfl (fun x1 I1 hq => ?_)
    obtain ⟨rfl, rfl⟩ := hq
    refine j_reti dX4_pointNumber_24 rfl (by first | rfl | exact bi_n _) ?_
    refine ⟨?_, rfl⟩
    unfold tol
    rw [if_pos (by omega)]
  ·
    skip
    refine j_aload_n (pc' := 7) dX4_pointNumber_6 rfl rfl ?_
    refine j_iload_n (pc' := 8) dX4_pointNumber_7 rfl rfl ?_
    refine j_cVi (pc' := 11) m_X4_172 (c_X4_whyHidden hs h hi hrk) (by assumption) (by decide) rfl rfl rfl ⟨Nat.le_of_ble_eq_true rfl, Nat.le_of_ble_eq_true rfl⟩ ⟨Nat.zero_le _, Nat.zero_le _⟩ (Nat.le_of_ble_eq_true rfl) dX4_pointNumber_8 rfl (fun x1 I1 hq => ?_)
    obtain ⟨rfl, rfl⟩ := hq
    refine j_goto (tgt := 24) dX4_pointNumber_11 (by decide) ?_
    refine j_reti dX4_pointNumber_24 rfl (by first | rfl | exact bi_n _) ?_
    refine ⟨?_, rfl⟩
    unfold tol
    rw [if_neg (by omega)]

