theorem vx_if {c : Prop} [Decidable c] {v w : Nat → Int32} {k : Nat} (h1 : c → VX v k) (h2 : ¬ c → VX w k) : VX (if c then v else w) k := by
  split
  · exact h1 (by assumption)
  · exact h2 (by assumption)
theorem nI_k {a b : Nat} (h : nI a = nI b) (ha : a ≤ 17) (hb : b ≤ 17) : a = b := by
  have e := congrArg Int32.toNatClampNeg h
  rwa [nI_clamp (by omega), nI_clamp (by omega)] at e
theorem vx_add {v : Nat → Int32} {k k2 T S N T2 S2 N2 : Nat} {x y : Int32} {c : Prop} [Decidable c] (hV : VI v k T S N) (hX : VX v k) (h2 : VI (if c then fAdd v k x y else v) k2 T2 S2 N2) : VX (if c then fAdd v k x y else v) k2 := by
  have z := h2.z
  have b := h2.k16
  have a := hV.k16
  by_cases hc : c
  · rw [if_pos hc] at z ⊢
    have e : fAdd v k x y 0 = nI (k + 1) := by unfold fAdd; exact pk_us
    have e2 : k + 1 = k2 := nI_k (e.symm.trans z) (by omega) (by omega)
    subst e2
    exact hX.add
  · rw [if_neg hc] at z ⊢
    have e2 : k = k2 := nI_k (hV.z.symm.trans z) (by omega) (by omega)
    subst e2
    exact hX
set_option maxRecDepth 100000 in
set_option maxHeartbeats 4000000 in
theorem c_X5_add {E : jx_E} {l : Launch} {n : Nat} {kd : jx_K} {R : jx_R} {I : jx_I} {d : Nat} {P : Nat → Nat} {v p : Nat → Int32} {q B k T S N : Nat} {x y : Int32} (hs : sDk kd R d P) (h : dM I d P v p q B) (hA : aSt I (stA d (P 4)) v k T) (hV : VI v k T S N) (hN : N ≤ B) (hX : VX v k) (hB : B + 70000 < 2147483000) : jx_CiR E l yX5_add cX5_add 3 (some .int) 4 n kd R (I) [.ref d, .int x, .int y] (fun r R' I' => r = (if okV x = true ∧ decide (nI 1 ≤ y ∧ y ≤ nI 4) = true then if k = 16 then -20003 else nI k else -20001) ∧ ∃ P', sDk kd R' d P' ∧ dFr d I I' ∧ rFr d R R' ∧ ((if okV x = true ∧ decide (nI 1 ≤ y ∧ y ≤ nI 4) = true then if k = 16 then -20003 else nI k else -20001) ≤ -20001 → dM I' d P' ((if (okV x = true ∧ decide (nI 1 ≤ y ∧ y ≤ nI 4) = true) ∧ ¬ k = 16 then fAdd v k x y else v)) p q (B + 60000)) ∧ (¬ (if okV x = true ∧ decide (nI 1 ≤ y ∧ y ≤ nI 4) = true then if k = 16 then -20003 else nI k else -20001) ≤ -20001 → ∀ u, eqR u v → dM I' d P' ((if (okV x = true ∧ decide (nI 1 ≤ y ∧ y ≤ nI 4) = true) ∧ ¬ k = 16 then fAdd v k x y else v)) (kpP p q u) (kpC q) (B + 60000))) := by
  obtain ⟨K0, K6, K7, R0, R1, R2, R4, R5, Rp, hsc, hst, hP6, hinj⟩ := id hs
  have S4 := hs.st (show 4 < 6 from by omega)
  have S5 := hs.st (show 5 < 6 from by omega)
  have K4 := S4.1
  have K5 := S5.1
  refine jx_CtR.ofJ RX5 [some (.ref d), some (.int x), some (.int y)] (by decide) rfl rfl (Nat.le_of_ble_eq_true rfl) rfl ?_
  refine j_aload_n (pc' := 1) dX5_add_0 rfl rfl ?_
  refine j_cVv (pc' := 4) m_X5_34 (c_X5_noteBefore hs h) (by assumption) (by decide) rfl rfl rfl ⟨Nat.le_of_ble_eq_true rfl, Nat.le_of_ble_eq_true rfl⟩ ⟨Nat.zero_le _, Nat.zero_le _⟩ (Nat.le_of_ble_eq_true rfl) dX5_add_1 rfl (fun I1 hq => ?_)
  obtain ⟨hb, hf, hz⟩ := hq
  have h1 : aS I1 I1 (stA d (P 4)) v k T S N := ⟨hA.fr hV.k16 hz, hV, fun _ _ => rfl⟩
  refine j_aload_n (pc' := 5) dX5_add_4 rfl rfl ?_
  refine j_aload_n (pc' := 6) dX5_add_5 rfl rfl ?_
  refine j_getR (pc' := 9) f_X5_27 (by assumption) (by assumption) dX5_add_6 rfl ?_
  refine j_iload_n (pc' := 10) dX5_add_9 rfl rfl ?_
  refine j_iload_n (pc' := 11) dX5_add_10 rfl rfl ?_
  refine j_cVi (pc' := 14) m_X5_37 (c_X4_addPoint S4 h1) (by assumption) (by decide) rfl rfl rfl ⟨Nat.le_of_ble_eq_true rfl, Nat.le_of_ble_eq_true rfl⟩ ⟨Nat.zero_le _, Nat.zero_le _⟩ (Nat.le_of_ble_eq_true rfl) dX5_add_11 rfl (fun x1 I1 hq => ?_)
  obtain ⟨rfl, k2, h2⟩ := hq
  have hx := vx_add hV hX h2.vi
  refine j_cViR (pc' := 17) m_X5_41 (c_X5_settle hs (dN.act (B1 := B + 60000) hs hb h2 (by omega) (by omega) (hx))) (by assumption) (by decide) rfl rfl rfl ⟨Nat.le_of_ble_eq_true rfl, Nat.le_of_ble_eq_true rfl⟩ ⟨Nat.zero_le _, Nat.zero_le _⟩ (Nat.le_of_ble_eq_true rfl) dX5_add_14 rfl (fun x1 R1 I1 hq => ?_)
  obtain ⟨rfl, P1, g1, g2, g3, g4, g5⟩ := hq
  refine j_retiR dX5_add_17 rfl (by first | rfl | exact bi_n _) ?_
  exact ⟨rfl, P1, g1, (hf.t (dFr.aS hs (by omega) h2)).t g2, g3, g4, g5⟩

set_option maxRecDepth 100000 in
set_option maxHeartbeats 4000000 in
theorem c_X5_set {E : jx_E} {l : Launch} {n : Nat} {kd : jx_K} {R : jx_R} {I : jx_I} {d : Nat} {P : Nat → Nat} {v p : Nat → Int32} {q B k T S N : Nat} {x s y : Int32} (hs : sDk kd R d P) (h : dM I d P v p q B) (hA : aSt I (stA d (P 4)) v k T) (hV : VI v k T S N) (hN : N ≤ B) (hX : VX v k) (hB : B + 70000 < 2147483000) : jx_CiR E l yX5_set cX5_set 4 (some .int) 4 n kd R (I) [.ref d, .int x, .int s, .int y] (fun r R' I' => r = (if okP v x = true ∧ okS s y = true then v (176 + 56 * x.toNatClampNeg + s.toNatClampNeg) else -20001) ∧ ∃ P', sDk kd R' d P' ∧ dFr d I I' ∧ rFr d R R' ∧ ((if okP v x = true ∧ okS s y = true then v (176 + 56 * x.toNatClampNeg + s.toNatClampNeg) else -20001) ≤ -20001 → dM I' d P' ((if okP v x = true ∧ okS s y = true then fSet v x s y else v)) p q (B + 60000)) ∧ (¬ (if okP v x = true ∧ okS s y = true then v (176 + 56 * x.toNatClampNeg + s.toNatClampNeg) else -20001) ≤ -20001 → ∀ u, eqR u v → dM I' d P' ((if okP v x = true ∧ okS s y = true then fSet v x s y else v)) (kpP p q u) (kpC q) (B + 60000))) := by
  obtain ⟨K0, K6, K7, R0, R1, R2, R4, R5, Rp, hsc, hst, hP6, hinj⟩ := id hs
  have S4 := hs.st (show 4 < 6 from by omega)
  have S5 := hs.st (show 5 < 6 from by omega)
  have K4 := S4.1
  have K5 := S5.1
  refine jx_CtR.ofJ RX5 [some (.ref d), some (.int x), some (.int s), some (.int y)] (by decide) rfl rfl (Nat.le_of_ble_eq_true rfl) rfl ?_
  refine j_aload_n (pc' := 1) dX5_set_0 rfl rfl ?_
  refine j_cVv (pc' := 4) m_X5_34 (c_X5_noteBefore hs h) (by assumption) (by decide) rfl rfl rfl ⟨Nat.le_of_ble_eq_true rfl, Nat.le_of_ble_eq_true rfl⟩ ⟨Nat.zero_le _, Nat.zero_le _⟩ (Nat.le_of_ble_eq_true rfl) dX5_set_1 rfl (fun I1 hq => ?_)
  obtain ⟨hb, hf, hz⟩ := hq
  have h1 : aS I1 I1 (stA d (P 4)) v k T S N := ⟨hA.fr hV.k16 hz, hV, fun _ _ => rfl⟩
  refine j_aload_n (pc' := 5) dX5_set_4 rfl rfl ?_
  refine j_aload_n (pc' := 6) dX5_set_5 rfl rfl ?_
  refine j_getR (pc' := 9) f_X5_27 (by assumption) (by assumption) dX5_set_6 rfl ?_
  refine j_iload_n (pc' := 10) dX5_set_9 rfl rfl ?_
  refine j_iload_n (pc' := 11) dX5_set_10 rfl rfl ?_
  refine j_iload_n (pc' := 12) dX5_set_11 rfl rfl ?_
  refine j_cVi (pc' := 15) m_X5_45 (c_X4_changeSetting S4 h1 (by omega)) (by assumption) (by decide) rfl rfl rfl ⟨Nat.le_of_ble_eq_true rfl, Nat.le_of_ble_eq_true rfl⟩ ⟨Nat.zero_le _, Nat.zero_le _⟩ (Nat.le_of_ble_eq_true rfl) dX5_set_12 rfl (fun x1 I1 hq => ?_)
  obtain ⟨rfl, N', hN1, hN2, h2⟩ := hq
  refine j_cViR (pc' := 18) m_X5_41 (c_X5_settle hs (dN.act (B1 := B + 60000) hs hb h2 (by omega) (by omega) (vx_if (fun hc => hX.kx hV.k16 (KX.set hc.2)) (fun _ => hX)))) (by assumption) (by decide) rfl rfl rfl ⟨Nat.le_of_ble_eq_true rfl, Nat.le_of_ble_eq_true rfl⟩ ⟨Nat.zero_le _, Nat.zero_le _⟩ (Nat.le_of_ble_eq_true rfl) dX5_set_15 rfl (fun x1 R1 I1 hq => ?_)
  obtain ⟨rfl, P1, g1, g2, g3, g4, g5⟩ := hq
  refine j_retiR dX5_set_18 rfl (by first | rfl | exact bi_n _) ?_
  exact ⟨rfl, P1, g1, (hf.t (dFr.aS hs (by omega) h2)).t g2, g3, g4, g5⟩

set_option maxRecDepth 100000 in
set_option maxHeartbeats 4000000 in
theorem c_X5_setRoot {E : jx_E} {l : Launch} {n : Nat} {kd : jx_K} {R : jx_R} {I : jx_I} {d : Nat} {P : Nat → Nat} {v p : Nat → Int32} {q B k T S N : Nat} {x y : Int32} (hs : sDk kd R d P) (h : dM I d P v p q B) (hA : aSt I (stA d (P 4)) v k T) (hV : VI v k T S N) (hN : N ≤ B) (hX : VX v k) (hB : B + 70000 < 2147483000) : jx_CiR E l yX5_setRoot cX5_setRoot 3 (some .int) 4 n kd R (I) [.ref d, .int x, .int y] (fun r R' I' => r = (if okP v x = true ∧ (y = -1 ∨ okP v y = true) then if climb v x 16 y = x then -20002 else v (176 + 56 * x.toNatClampNeg + 8) else -20001) ∧ ∃ P', sDk kd R' d P' ∧ dFr d I I' ∧ rFr d R R' ∧ ((if okP v x = true ∧ (y = -1 ∨ okP v y = true) then if climb v x 16 y = x then -20002 else v (176 + 56 * x.toNatClampNeg + 8) else -20001) ≤ -20001 → dM I' d P' ((if (okP v x = true ∧ (y = -1 ∨ okP v y = true)) ∧ ¬ climb v x 16 y = x then upd v (176 + 56 * x.toNatClampNeg + 8) y else v)) p q (B + 60000)) ∧ (¬ (if okP v x = true ∧ (y = -1 ∨ okP v y = true) then if climb v x 16 y = x then -20002 else v (176 + 56 * x.toNatClampNeg + 8) else -20001) ≤ -20001 → ∀ u, eqR u v → dM I' d P' ((if (okP v x = true ∧ (y = -1 ∨ okP v y = true)) ∧ ¬ climb v x 16 y = x then upd v (176 + 56 * x.toNatClampNeg + 8) y else v)) (kpP p q u) (kpC q) (B + 60000))) := by
  obtain ⟨K0, K6, K7, R0, R1, R2, R4, R5, Rp, hsc, hst, hP6, hinj⟩ := id hs
  have S4 := hs.st (show 4 < 6 from by omega)
  have S5 := hs.st (show 5 < 6 from by omega)
  have K4 := S4.1
  have K5 := S5.1
  obtain ⟨rk, hrk⟩ := hV.r
  refine jx_CtR.ofJ RX5 [some (.ref d), some (.int x), some (.int y)] (by decide) rfl rfl (Nat.le_of_ble_eq_true rfl) rfl ?_
  refine j_aload_n (pc' := 1) dX5_setRoot_0 rfl rfl ?_
  refine j_cVv (pc' := 4) m_X5_34 (c_X5_noteBefore hs h) (by assumption) (by decide) rfl rfl rfl ⟨Nat.le_of_ble_eq_true rfl, Nat.le_of_ble_eq_true rfl⟩ ⟨Nat.zero_le _, Nat.zero_le _⟩ (Nat.le_of_ble_eq_true rfl) dX5_setRoot_1 rfl (fun I1 hq => ?_)
  obtain ⟨hb, hf, hz⟩ := hq
  have h1 : aS I1 I1 (stA d (P 4)) v k T S N := ⟨hA.fr hV.k16 hz, hV, fun _ _ => rfl⟩
  refine j_aload_n (pc' := 5) dX5_setRoot_4 rfl rfl ?_
  refine j_aload_n (pc' := 6) dX5_setRoot_5 rfl rfl ?_
  refine j_getR (pc' := 9) f_X5_27 (by assumption) (by assumption) dX5_setRoot_6 rfl ?_
  refine j_iload_n (pc' := 10) dX5_setRoot_9 rfl rfl ?_
  refine j_iload_n (pc' := 11) dX5_setRoot_10 rfl rfl ?_
  refine j_cVi (pc' := 14) m_X5_49 (c_X4_changeRoot S4 h1 hrk) (by assumption) (by decide) rfl rfl rfl ⟨Nat.le_of_ble_eq_true rfl, Nat.le_of_ble_eq_true rfl⟩ ⟨Nat.zero_le _, Nat.zero_le _⟩ (Nat.le_of_ble_eq_true rfl) dX5_setRoot_11 rfl (fun x1 I1 hq => ?_)
  obtain ⟨rfl, h2⟩ := hq
  refine j_cViR (pc' := 17) m_X5_41 (c_X5_settle hs (dN.act (B1 := B + 60000) hs hb h2 (by omega) (by omega) (vx_if (fun hc => hX.kx hV.k16 (KX.r.u (fun i hi => by omega) (by omega) (by omega))) (fun _ => hX)))) (by assumption) (by decide) rfl rfl rfl ⟨Nat.le_of_ble_eq_true rfl, Nat.le_of_ble_eq_true rfl⟩ ⟨Nat.zero_le _, Nat.zero_le _⟩ (Nat.le_of_ble_eq_true rfl) dX5_setRoot_14 rfl (fun x1 R1 I1 hq => ?_)
  obtain ⟨rfl, P1, g1, g2, g3, g4, g5⟩ := hq
  refine j_retiR dX5_setRoot_17 rfl (by first | rfl | exact bi_n _) ?_
  exact ⟨rfl, P1, g1, (hf.t (dFr.aS hs (by omega) h2)).t g2, g3, g4, g5⟩

set_option maxRecDepth 100000 in
set_option maxHeartbeats 4000000 in
theorem c_X5_setValue {E : jx_E} {l : Launch} {n : Nat} {kd : jx_K} {R : jx_R} {I : jx_I} {d : Nat} {P : Nat → Nat} {v p : Nat → Int32} {q B k T S N : Nat} {x y : Int32} (hs : sDk kd R d P) (h : dM I d P v p q B) (hA : aSt I (stA d (P 4)) v k T) (hV : VI v k T S N) (hN : N ≤ B) (hX : VX v k) (hB : B + 70000 < 2147483000) : jx_CiR E l yX5_setValue cX5_setValue 3 (some .int) 4 n kd R (I) [.ref d, .int x, .int y] (fun r R' I' => r = (fVal v x y).1 ∧ ∃ P', sDk kd R' d P' ∧ dFr d I I' ∧ rFr d R R' ∧ ((fVal v x y).1 ≤ -20001 → dM I' d P' ((fVal v x y).2) p q (B + 60000)) ∧ (¬ (fVal v x y).1 ≤ -20001 → ∀ u, eqR u v → dM I' d P' ((fVal v x y).2) (kpP p q u) (kpC q) (B + 60000))) := by
  obtain ⟨K0, K6, K7, R0, R1, R2, R4, R5, Rp, hsc, hst, hP6, hinj⟩ := id hs
  have S4 := hs.st (show 4 < 6 from by omega)
  have S5 := hs.st (show 5 < 6 from by omega)
  have K4 := S4.1
  have K5 := S5.1
  refine jx_CtR.ofJ RX5 [some (.ref d), some (.int x), some (.int y)] (by decide) rfl rfl (Nat.le_of_ble_eq_true rfl) rfl ?_
  refine j_aload_n (pc' := 1) dX5_setValue_0 rfl rfl ?_
  refine j_cVv (pc' := 4) m_X5_34 (c_X5_noteBefore hs h) (by assumption) (by decide) rfl rfl rfl ⟨Nat.le_of_ble_eq_true rfl, Nat.le_of_ble_eq_true rfl⟩ ⟨Nat.zero_le _, Nat.zero_le _⟩ (Nat.le_of_ble_eq_true rfl) dX5_setValue_1 rfl (fun I1 hq => ?_)
  obtain ⟨hb, hf, hz⟩ := hq
  have h1 : aS I1 I1 (stA d (P 4)) v k T S N := ⟨hA.fr hV.k16 hz, hV, fun _ _ => rfl⟩
  refine j_aload_n (pc' := 5) dX5_setValue_4 rfl rfl ?_
  refine j_aload_n (pc' := 6) dX5_setValue_5 rfl rfl ?_
  refine j_getR (pc' := 9) f_X5_27 (by assumption) (by assumption) dX5_setValue_6 rfl ?_
  refine j_iload_n (pc' := 10) dX5_setValue_9 rfl rfl ?_
  refine j_iload_n (pc' := 11) dX5_setValue_10 rfl rfl ?_
  refine j_cVi (pc' := 14) m_X5_52 (c_X4_changeValue S4 h1) (by assumption) (by decide) rfl rfl rfl ⟨Nat.le_of_ble_eq_true rfl, Nat.le_of_ble_eq_true rfl⟩ ⟨Nat.zero_le _, Nat.zero_le _⟩ (Nat.le_of_ble_eq_true rfl) dX5_setValue_11 rfl (fun x1 I1 hq => ?_)
  obtain ⟨rfl, h2⟩ := hq
  refine j_cViR (pc' := 17) m_X5_41 (c_X5_settle hs (dN.act (B1 := B + 60000) hs hb h2 (by omega) (by omega) (hX.val))) (by assumption) (by decide) rfl rfl rfl ⟨Nat.le_of_ble_eq_true rfl, Nat.le_of_ble_eq_true rfl⟩ ⟨Nat.zero_le _, Nat.zero_le _⟩ (Nat.le_of_ble_eq_true rfl) dX5_setValue_14 rfl (fun x1 R1 I1 hq => ?_)
  obtain ⟨rfl, P1, g1, g2, g3, g4, g5⟩ := hq
  refine j_retiR dX5_setValue_17 rfl (by first | rfl | exact bi_n _) ?_
  exact ⟨rfl, P1, g1, (hf.t (dFr.aS hs (by omega) h2)).t g2, g3, g4, g5⟩

set_option maxRecDepth 100000 in
set_option maxHeartbeats 4000000 in
theorem c_X5_setState {E : jx_E} {l : Launch} {n : Nat} {kd : jx_K} {R : jx_R} {I : jx_I} {d : Nat} {P : Nat → Nat} {v p : Nat → Int32} {q B k T S N : Nat} {x : Int32} (hs : sDk kd R d P) (h : dM I d P v p q B) (hA : aSt I (stA d (P 4)) v k T) (hV : VI v k T S N) (hN : N ≤ B) (hX : VX v k) (hB : B + 70000 < 2147483000) : jx_CiR E l yX5_setState cX5_setState 2 (some .int) 4 n kd R (I) [.ref d, .int x] (fun r R' I' => r = (fMod v x).1 ∧ ∃ P', sDk kd R' d P' ∧ dFr d I I' ∧ rFr d R R' ∧ ((fMod v x).1 ≤ -20001 → dM I' d P' ((fMod v x).2) p q (B + 60000)) ∧ (¬ (fMod v x).1 ≤ -20001 → ∀ u, eqR u v → dM I' d P' ((fMod v x).2) (kpP p q u) (kpC q) (B + 60000))) := by
  obtain ⟨K0, K6, K7, R0, R1, R2, R4, R5, Rp, hsc, hst, hP6, hinj⟩ := id hs
  have S4 := hs.st (show 4 < 6 from by omega)
  have S5 := hs.st (show 5 < 6 from by omega)
  have K4 := S4.1
  have K5 := S5.1
  refine jx_CtR.ofJ RX5 [some (.ref d), some (.int x)] (by decide) rfl rfl (Nat.le_of_ble_eq_true rfl) rfl ?_
  refine j_aload_n (pc' := 1) dX5_setState_0 rfl rfl ?_
  refine j_cVv (pc' := 4) m_X5_34 (c_X5_noteBefore hs h) (by assumption) (by decide) rfl rfl rfl ⟨Nat.le_of_ble_eq_true rfl, Nat.le_of_ble_eq_true rfl⟩ ⟨Nat.zero_le _, Nat.zero_le _⟩ (Nat.le_of_ble_eq_true rfl) dX5_setState_1 rfl (fun I1 hq => ?_)
  obtain ⟨hb, hf, hz⟩ := hq
  have h1 : aS I1 I1 (stA d (P 4)) v k T S N := ⟨hA.fr hV.k16 hz, hV, fun _ _ => rfl⟩
  refine j_aload_n (pc' := 5) dX5_setState_4 rfl rfl ?_
  refine j_aload_n (pc' := 6) dX5_setState_5 rfl rfl ?_
  refine j_getR (pc' := 9) f_X5_27 (by assumption) (by assumption) dX5_setState_6 rfl ?_
  refine j_iload_n (pc' := 10) dX5_setState_9 rfl rfl ?_
  refine j_cVi (pc' := 13) m_X5_70 (c_X4_changeMode S4 h1) (by assumption) (by decide) rfl rfl rfl ⟨Nat.le_of_ble_eq_true rfl, Nat.le_of_ble_eq_true rfl⟩ ⟨Nat.zero_le _, Nat.zero_le _⟩ (Nat.le_of_ble_eq_true rfl) dX5_setState_10 rfl (fun x1 I1 hq => ?_)
  obtain ⟨rfl, h2⟩ := hq
  refine j_cViR (pc' := 16) m_X5_41 (c_X5_settle hs (dN.act (B1 := B + 60000) hs hb h2 (by omega) (by omega) (hX.kx hV.k16 KX.mod))) (by assumption) (by decide) rfl rfl rfl ⟨Nat.le_of_ble_eq_true rfl, Nat.le_of_ble_eq_true rfl⟩ ⟨Nat.zero_le _, Nat.zero_le _⟩ (Nat.le_of_ble_eq_true rfl) dX5_setState_13 rfl (fun x1 R1 I1 hq => ?_)
  obtain ⟨rfl, P1, g1, g2, g3, g4, g5⟩ := hq
  refine j_retiR dX5_setState_16 rfl (by first | rfl | exact bi_n _) ?_
  exact ⟨rfl, P1, g1, (hf.t (dFr.aS hs (by omega) h2)).t g2, g3, g4, g5⟩

set_option maxRecDepth 100000 in
set_option maxHeartbeats 4000000 in
theorem c_X5_setFlood {E : jx_E} {l : Launch} {n : Nat} {kd : jx_K} {R : jx_R} {I : jx_I} {d : Nat} {P : Nat → Nat} {v p : Nat → Int32} {q B k T S N : Nat} {x y z : Int32} (hs : sDk kd R d P) (h : dM I d P v p q B) (hA : aSt I (stA d (P 4)) v k T) (hV : VI v k T S N) (hN : N ≤ B) (hX : VX v k) (hB : B + 70000 < 2147483000) : jx_CiR E l yX5_setFlood cX5_setFlood 4 (some .int) 4 n kd R (I) [.ref d, .int x, .int y, .int z] (fun r R' I' => r = (if okF x y z = true then nI 10000 * v 5 + nI 100 * v 6 + v 7 else -20001) ∧ ∃ P', sDk kd R' d P' ∧ dFr d I I' ∧ rFr d R R' ∧ ((if okF x y z = true then nI 10000 * v 5 + nI 100 * v 6 + v 7 else -20001) ≤ -20001 → dM I' d P' ((if okF x y z = true then upd (upd (upd v 5 x) 6 y) 7 z else v)) p q (B + 60000)) ∧ (¬ (if okF x y z = true then nI 10000 * v 5 + nI 100 * v 6 + v 7 else -20001) ≤ -20001 → ∀ u, eqR u v → dM I' d P' ((if okF x y z = true then upd (upd (upd v 5 x) 6 y) 7 z else v)) (kpP p q u) (kpC q) (B + 60000))) := by
  obtain ⟨K0, K6, K7, R0, R1, R2, R4, R5, Rp, hsc, hst, hP6, hinj⟩ := id hs
  have S4 := hs.st (show 4 < 6 from by omega)
  have S5 := hs.st (show 5 < 6 from by omega)
  have K4 := S4.1
  have K5 := S5.1
  refine jx_CtR.ofJ RX5 [some (.ref d), some (.int x), some (.int y), some (.int z)] (by decide) rfl rfl (Nat.le_of_ble_eq_true rfl) rfl ?_
  refine j_aload_n (pc' := 1) dX5_setFlood_0 rfl rfl ?_
  refine j_cVv (pc' := 4) m_X5_34 (c_X5_noteBefore hs h) (by assumption) (by decide) rfl rfl rfl ⟨Nat.le_of_ble_eq_true rfl, Nat.le_of_ble_eq_true rfl⟩ ⟨Nat.zero_le _, Nat.zero_le _⟩ (Nat.le_of_ble_eq_true rfl) dX5_setFlood_1 rfl (fun I1 hq => ?_)
  obtain ⟨hb, hf, hz⟩ := hq
  have h1 : aS I1 I1 (stA d (P 4)) v k T S N := ⟨hA.fr hV.k16 hz, hV, fun _ _ => rfl⟩
  refine j_aload_n (pc' := 5) dX5_setFlood_4 rfl rfl ?_
  refine j_aload_n (pc' := 6) dX5_setFlood_5 rfl rfl ?_
  refine j_getR (pc' := 9) f_X5_27 (by assumption) (by assumption) dX5_setFlood_6 rfl ?_
  refine j_iload_n (pc' := 10) dX5_setFlood_9 rfl rfl ?_
  refine j_iload_n (pc' := 11) dX5_setFlood_10 rfl rfl ?_
  refine j_iload_n (pc' := 12) dX5_setFlood_11 rfl rfl ?_
  refine j_cVi (pc' := 15) m_X5_73 (c_X4_changeFlood S4 h1) (by assumption) (by decide) rfl rfl rfl ⟨Nat.le_of_ble_eq_true rfl, Nat.le_of_ble_eq_true rfl⟩ ⟨Nat.zero_le _, Nat.zero_le _⟩ (Nat.le_of_ble_eq_true rfl) dX5_setFlood_12 rfl (fun x1 I1 hq => ?_)
  obtain ⟨rfl, S2, h2⟩ := hq
  refine j_cViR (pc' := 18) m_X5_41 (c_X5_settle hs (dN.act (B1 := B + 60000) hs hb h2 (by omega) (by omega) (vx_if (fun hc => hX.flo hc) (fun _ => hX)))) (by assumption) (by decide) rfl rfl rfl ⟨Nat.le_of_ble_eq_true rfl, Nat.le_of_ble_eq_true rfl⟩ ⟨Nat.zero_le _, Nat.zero_le _⟩ (Nat.le_of_ble_eq_true rfl) dX5_setFlood_15 rfl (fun x1 R1 I1 hq => ?_)
  obtain ⟨rfl, P1, g1, g2, g3, g4, g5⟩ := hq
  refine j_retiR dX5_setFlood_18 rfl (by first | rfl | exact bi_n _) ?_
  exact ⟨rfl, P1, g1, (hf.t (dFr.aS hs (by omega) h2)).t g2, g3, g4, g5⟩

set_option maxRecDepth 100000 in
set_option maxHeartbeats 4000000 in
theorem c_X5_tick {E : jx_E} {l : Launch} {n : Nat} {kd : jx_K} {R : jx_R} {I : jx_I} {d : Nat} {P : Nat → Nat} {v p : Nat → Int32} {q B k T S N : Nat} {x : Int32} (hs : sDk kd R d P) (h : dM I d P v p q B) (hA : aSt I (stA d (P 4)) v k T) (hV : VI v k T S N) (hN : N ≤ B) (hX : VX v k) (hB : B + 70000 < 2147483000) : jx_CiR E l yX5_tick cX5_tick 2 (some .int) 6 n kd R (I) [.ref d, .int x] (fun r R' I' => r = (fTks v k T S x).1 ∧ ∃ P', sDk kd R' d P' ∧ dFr d I I' ∧ rFr d R R' ∧ ((fTks v k T S x).1 ≤ -20001 → dM I' d P' ((fTks v k T S x).2) p q (B + 60000)) ∧ (¬ (fTks v k T S x).1 ≤ -20001 → ∀ u, eqR u v → dM I' d P' ((fTks v k T S x).2) (kpP p q u) (kpC q) (B + 60000))) := by
  obtain ⟨K0, K6, K7, R0, R1, R2, R4, R5, Rp, hsc, hst, hP6, hinj⟩ := id hs
  have S4 := hs.st (show 4 < 6 from by omega)
  have S5 := hs.st (show 5 < 6 from by omega)
  have K4 := S4.1
  have K5 := S5.1
  refine jx_CtR.ofJ RX5 [some (.ref d), some (.int x)] (by decide) rfl rfl (Nat.le_of_ble_eq_true rfl) rfl ?_
  refine j_aload_n (pc' := 1) dX5_tick_0 rfl rfl ?_
  refine j_cVv (pc' := 4) m_X5_34 (c_X5_noteBefore hs h) (by assumption) (by decide) rfl rfl rfl ⟨Nat.le_of_ble_eq_true rfl, Nat.le_of_ble_eq_true rfl⟩ ⟨Nat.zero_le _, Nat.zero_le _⟩ (Nat.le_of_ble_eq_true rfl) dX5_tick_1 rfl (fun I1 hq => ?_)
  obtain ⟨hb, hf, hz⟩ := hq
  have h1 : aS I1 I1 (stA d (P 4)) v k T S N := ⟨hA.fr hV.k16 hz, hV, fun _ _ => rfl⟩
  refine j_aload_n (pc' := 5) dX5_tick_4 rfl rfl ?_
  refine j_aload_n (pc' := 6) dX5_tick_5 rfl rfl ?_
  refine j_getR (pc' := 9) f_X5_27 (by assumption) (by assumption) dX5_tick_6 rfl ?_
  refine j_iload_n (pc' := 10) dX5_tick_9 rfl rfl ?_
  refine j_cVi (pc' := 13) m_X5_76 (c_X4_passTicks S4 h1 (by omega)) (by assumption) (by decide) rfl rfl rfl ⟨Nat.le_of_ble_eq_true rfl, Nat.le_of_ble_eq_true rfl⟩ ⟨Nat.zero_le _, Nat.zero_le _⟩ (Nat.le_of_ble_eq_true rfl) dX5_tick_10 rfl (fun x1 I1 hq => ?_)
  obtain ⟨rfl, T', N', hN1, hN2, h2⟩ := hq
  refine j_cViR (pc' := 16) m_X5_41 (c_X5_settle hs (dN.act (B1 := B + 60000) hs hb h2 (by omega) (by omega) (hX.kx hV.k16 KX.tks))) (by assumption) (by decide) rfl rfl rfl ⟨Nat.le_of_ble_eq_true rfl, Nat.le_of_ble_eq_true rfl⟩ ⟨Nat.zero_le _, Nat.zero_le _⟩ (Nat.le_of_ble_eq_true rfl) dX5_tick_13 rfl (fun x1 R1 I1 hq => ?_)
  obtain ⟨rfl, P1, g1, g2, g3, g4, g5⟩ := hq
  refine j_retiR dX5_tick_16 rfl (by first | rfl | exact bi_n _) ?_
  exact ⟨rfl, P1, g1, (hf.t (dFr.aS hs (by omega) h2)).t g2, g3, g4, g5⟩

set_option maxRecDepth 100000 in
set_option maxHeartbeats 4000000 in
theorem c_X5_ack {E : jx_E} {l : Launch} {n : Nat} {kd : jx_K} {R : jx_R} {I : jx_I} {d : Nat} {P : Nat → Nat} {v p : Nat → Int32} {q B k T S N : Nat} {x : Int32} (hs : sDk kd R d P) (h : dM I d P v p q B) (hA : aSt I (stA d (P 4)) v k T) (hV : VI v k T S N) (hN : N ≤ B) (hX : VX v k) (hB : B + 70000 < 2147483000) : jx_CiR E l yX5_ack cX5_ack 2 (some .int) 4 n kd R (I) [.ref d, .int x] (fun r R' I' => r = (fAck v x).1 ∧ ∃ P', sDk kd R' d P' ∧ dFr d I I' ∧ rFr d R R' ∧ ((fAck v x).1 ≤ -20001 → dM I' d P' ((fAck v x).2) p q (B + 60000)) ∧ (¬ (fAck v x).1 ≤ -20001 → ∀ u, eqR u v → dM I' d P' ((fAck v x).2) (kpP p q u) (kpC q) (B + 60000))) := by
  obtain ⟨K0, K6, K7, R0, R1, R2, R4, R5, Rp, hsc, hst, hP6, hinj⟩ := id hs
  have S4 := hs.st (show 4 < 6 from by omega)
  have S5 := hs.st (show 5 < 6 from by omega)
  have K4 := S4.1
  have K5 := S5.1
  refine jx_CtR.ofJ RX5 [some (.ref d), some (.int x)] (by decide) rfl rfl (Nat.le_of_ble_eq_true rfl) rfl ?_
  refine j_aload_n (pc' := 1) dX5_ack_0 rfl rfl ?_
  refine j_cVv (pc' := 4) m_X5_34 (c_X5_noteBefore hs h) (by assumption) (by decide) rfl rfl rfl ⟨Nat.le_of_ble_eq_true rfl, Nat.le_of_ble_eq_true rfl⟩ ⟨Nat.zero_le _, Nat.zero_le _⟩ (Nat.le_of_ble_eq_true rfl) dX5_ack_1 rfl (fun I1 hq => ?_)
  obtain ⟨hb, hf, hz⟩ := hq
  have h1 : aS I1 I1 (stA d (P 4)) v k T S N := ⟨hA.fr hV.k16 hz, hV, fun _ _ => rfl⟩
  refine j_aload_n (pc' := 5) dX5_ack_4 rfl rfl ?_
  refine j_aload_n (pc' := 6) dX5_ack_5 rfl rfl ?_
  refine j_getR (pc' := 9) f_X5_27 (by assumption) (by assumption) dX5_ack_6 rfl ?_
  refine j_iload_n (pc' := 10) dX5_ack_9 rfl rfl ?_
  refine j_cVi (pc' := 13) m_X5_101 (c_X4_acknowledge S4 h1 (by omega)) (by assumption) (by decide) rfl rfl rfl ⟨Nat.le_of_ble_eq_true rfl, Nat.le_of_ble_eq_true rfl⟩ ⟨Nat.zero_le _, Nat.zero_le _⟩ (Nat.le_of_ble_eq_true rfl) dX5_ack_10 rfl (fun x1 I1 hq => ?_)
  obtain ⟨rfl, N', hN1, hN2, h2⟩ := hq
  refine j_cViR (pc' := 16) m_X5_41 (c_X5_settle hs (dN.act (B1 := B + 60000) hs hb h2 (by omega) (by omega) (hX.kx hV.k16 KX.ack))) (by assumption) (by decide) rfl rfl rfl ⟨Nat.le_of_ble_eq_true rfl, Nat.le_of_ble_eq_true rfl⟩ ⟨Nat.zero_le _, Nat.zero_le _⟩ (Nat.le_of_ble_eq_true rfl) dX5_ack_13 rfl (fun x1 R1 I1 hq => ?_)
  obtain ⟨rfl, P1, g1, g2, g3, g4, g5⟩ := hq
  refine j_retiR dX5_ack_16 rfl (by first | rfl | exact bi_n _) ?_
  exact ⟨rfl, P1, g1, (hf.t (dFr.aS hs (by omega) h2)).t g2, g3, g4, g5⟩

set_option maxRecDepth 100000 in
set_option maxHeartbeats 4000000 in
theorem c_X5_shelve {E : jx_E} {l : Launch} {n : Nat} {kd : jx_K} {R : jx_R} {I : jx_I} {d : Nat} {P : Nat → Nat} {v p : Nat → Int32} {q B k T S N : Nat} {x y : Int32} (hs : sDk kd R d P) (h : dM I d P v p q B) (hA : aSt I (stA d (P 4)) v k T) (hV : VI v k T S N) (hN : N ≤ B) (hX : VX v k) (hB : B + 70000 < 2147483000) : jx_CiR E l yX5_shelve cX5_shelve 3 (some .int) 4 n kd R (I) [.ref d, .int x, .int y] (fun r R' I' => r = (fShv v x y).1 ∧ ∃ P', sDk kd R' d P' ∧ dFr d I I' ∧ rFr d R R' ∧ ((fShv v x y).1 ≤ -20001 → dM I' d P' ((fShv v x y).2) p q (B + 60000)) ∧ (¬ (fShv v x y).1 ≤ -20001 → ∀ u, eqR u v → dM I' d P' ((fShv v x y).2) (kpP p q u) (kpC q) (B + 60000))) := by
  obtain ⟨K0, K6, K7, R0, R1, R2, R4, R5, Rp, hsc, hst, hP6, hinj⟩ := id hs
  have S4 := hs.st (show 4 < 6 from by omega)
  have S5 := hs.st (show 5 < 6 from by omega)
  have K4 := S4.1
  have K5 := S5.1
  refine jx_CtR.ofJ RX5 [some (.ref d), some (.int x), some (.int y)] (by decide) rfl rfl (Nat.le_of_ble_eq_true rfl) rfl ?_
  refine j_aload_n (pc' := 1) dX5_shelve_0 rfl rfl ?_
  refine j_cVv (pc' := 4) m_X5_34 (c_X5_noteBefore hs h) (by assumption) (by decide) rfl rfl rfl ⟨Nat.le_of_ble_eq_true rfl, Nat.le_of_ble_eq_true rfl⟩ ⟨Nat.zero_le _, Nat.zero_le _⟩ (Nat.le_of_ble_eq_true rfl) dX5_shelve_1 rfl (fun I1 hq => ?_)
  obtain ⟨hb, hf, hz⟩ := hq
  have h1 : aS I1 I1 (stA d (P 4)) v k T S N := ⟨hA.fr hV.k16 hz, hV, fun _ _ => rfl⟩
  refine j_aload_n (pc' := 5) dX5_shelve_4 rfl rfl ?_
  refine j_aload_n (pc' := 6) dX5_shelve_5 rfl rfl ?_
  refine j_getR (pc' := 9) f_X5_27 (by assumption) (by assumption) dX5_shelve_6 rfl ?_
  refine j_iload_n (pc' := 10) dX5_shelve_9 rfl rfl ?_
  refine j_iload_n (pc' := 11) dX5_shelve_10 rfl rfl ?_
  refine j_cVi (pc' := 14) m_X5_111 (c_X4_putOnShelf S4 h1 (by omega)) (by assumption) (by decide) rfl rfl rfl ⟨Nat.le_of_ble_eq_true rfl, Nat.le_of_ble_eq_true rfl⟩ ⟨Nat.zero_le _, Nat.zero_le _⟩ (Nat.le_of_ble_eq_true rfl) dX5_shelve_11 rfl (fun x1 I1 hq => ?_)
  obtain ⟨rfl, N', hN1, hN2, h2⟩ := hq
  refine j_cViR (pc' := 17) m_X5_41 (c_X5_settle hs (dN.act (B1 := B + 60000) hs hb h2 (by omega) (by omega) (hX.kx hV.k16 KX.shv))) (by assumption) (by decide) rfl rfl rfl ⟨Nat.le_of_ble_eq_true rfl, Nat.le_of_ble_eq_true rfl⟩ ⟨Nat.zero_le _, Nat.zero_le _⟩ (Nat.le_of_ble_eq_true rfl) dX5_shelve_14 rfl (fun x1 R1 I1 hq => ?_)
  obtain ⟨rfl, P1, g1, g2, g3, g4, g5⟩ := hq
  refine j_retiR dX5_shelve_17 rfl (by first | rfl | exact bi_n _) ?_
  exact ⟨rfl, P1, g1, (hf.t (dFr.aS hs (by omega) h2)).t g2, g3, g4, g5⟩

set_option maxRecDepth 100000 in
set_option maxHeartbeats 4000000 in
theorem c_X5_unshelve {E : jx_E} {l : Launch} {n : Nat} {kd : jx_K} {R : jx_R} {I : jx_I} {d : Nat} {P : Nat → Nat} {v p : Nat → Int32} {q B k T S N : Nat} {x : Int32} (hs : sDk kd R d P) (h : dM I d P v p q B) (hA : aSt I (stA d (P 4)) v k T) (hV : VI v k T S N) (hN : N ≤ B) (hX : VX v k) (hB : B + 70000 < 2147483000) : jx_CiR E l yX5_unshelve cX5_unshelve 2 (some .int) 4 n kd R (I) [.ref d, .int x] (fun r R' I' => r = (fUns v x).1 ∧ ∃ P', sDk kd R' d P' ∧ dFr d I I' ∧ rFr d R R' ∧ ((fUns v x).1 ≤ -20001 → dM I' d P' ((fUns v x).2) p q (B + 60000)) ∧ (¬ (fUns v x).1 ≤ -20001 → ∀ u, eqR u v → dM I' d P' ((fUns v x).2) (kpP p q u) (kpC q) (B + 60000))) := by
  obtain ⟨K0, K6, K7, R0, R1, R2, R4, R5, Rp, hsc, hst, hP6, hinj⟩ := id hs
  have S4 := hs.st (show 4 < 6 from by omega)
  have S5 := hs.st (show 5 < 6 from by omega)
  have K4 := S4.1
  have K5 := S5.1
  refine jx_CtR.ofJ RX5 [some (.ref d), some (.int x)] (by decide) rfl rfl (Nat.le_of_ble_eq_true rfl) rfl ?_
  refine j_aload_n (pc' := 1) dX5_unshelve_0 rfl rfl ?_
  refine j_cVv (pc' := 4) m_X5_34 (c_X5_noteBefore hs h) (by assumption) (by decide) rfl rfl rfl ⟨Nat.le_of_ble_eq_true rfl, Nat.le_of_ble_eq_true rfl⟩ ⟨Nat.zero_le _, Nat.zero_le _⟩ (Nat.le_of_ble_eq_true rfl) dX5_unshelve_1 rfl (fun I1 hq => ?_)
  obtain ⟨hb, hf, hz⟩ := hq
  have h1 : aS I1 I1 (stA d (P 4)) v k T S N := ⟨hA.fr hV.k16 hz, hV, fun _ _ => rfl⟩
  refine j_aload_n (pc' := 5) dX5_unshelve_4 rfl rfl ?_
  refine j_aload_n (pc' := 6) dX5_unshelve_5 rfl rfl ?_
  refine j_getR (pc' := 9) f_X5_27 (by assumption) (by assumption) dX5_unshelve_6 rfl ?_
  refine j_iload_n (pc' := 10) dX5_unshelve_9 rfl rfl ?_
  refine j_cVi (pc' := 13) m_X5_114 (c_X4_takeFromShelf S4 h1 (by omega)) (by assumption) (by decide) rfl rfl rfl ⟨Nat.le_of_ble_eq_true rfl, Nat.le_of_ble_eq_true rfl⟩ ⟨Nat.zero_le _, Nat.zero_le _⟩ (Nat.le_of_ble_eq_true rfl) dX5_unshelve_10 rfl (fun x1 I1 hq => ?_)
  obtain ⟨rfl, N', hN1, hN2, h2⟩ := hq
  refine j_cViR (pc' := 16) m_X5_41 (c_X5_settle hs (dN.act (B1 := B + 60000) hs hb h2 (by omega) (by omega) (hX.kx hV.k16 KX.uns))) (by assumption) (by decide) rfl rfl rfl ⟨Nat.le_of_ble_eq_true rfl, Nat.le_of_ble_eq_true rfl⟩ ⟨Nat.zero_le _, Nat.zero_le _⟩ (Nat.le_of_ble_eq_true rfl) dX5_unshelve_13 rfl (fun x1 R1 I1 hq => ?_)
  obtain ⟨rfl, P1, g1, g2, g3, g4, g5⟩ := hq
  refine j_retiR dX5_unshelve_16 rfl (by first | rfl | exact bi_n _) ?_
  exact ⟨rfl, P1, g1, (hf.t (dFr.aS hs (by omega) h2)).t g2, g3, g4, g5⟩

