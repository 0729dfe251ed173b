/-! ===== p30: the desk, by its row ===== -/
/-- now is the row v, the history the first q rows of p, no row has more than B events -/
def DK (kd : jx_K) (R : jx_R) (I : jx_I) (d : Nat) (v p : Nat → Int32) (q B : Nat) : Prop := ∃ P t L, sDk kd R d P ∧ dM I d P v p q B ∧ scI d I t L
theorem VI.uq {v : Nat → Int32} {k T S N k' T' S' N' : Nat} (h : VI v k T S N) (h' : VI v k' T' S' N') (hN : N < 2147483000) (hN' : N' < 2147483000) : k' = k ∧ T' = T ∧ S' = S ∧ N' = N := by
  have a1 := h.k16
  have a2 := h'.k16
  have b1 := h.tl
  have b2 := h'.tl
  have c1 := h.sl
  have c2 := h'.sl
  exact ⟨(nI_eq (by omega) (by omega)).mp (h'.z.symm.trans h.z), (nI_eq (by omega) (by omega)).mp (h'.t.symm.trans h.t), (nI_eq (by omega) (by omega)).mp (h'.s.symm.trans h.s), (nI_eq (by omega) (by omega)).mp (h'.n.symm.trans h.n)⟩
theorem dM.at {I : jx_I} {d : Nat} {P : Nat → Nat} {v p : Nat → Int32} {q B k T S N : Nat} (h : dM I d P v p q B) (hV : VI v k T S N) (hN : N ≤ B) (hB : B < 2147483000) : aSt I (stA d (P 4)) v k T ∧ VX v k := by
  obtain ⟨k', T', S', N', h1, h2, h3, h4⟩ := h.2.2.1
  obtain ⟨rfl, rfl, rfl, rfl⟩ := hV.uq h2 (by omega) (by omega)
  exact ⟨h1, h4⟩
theorem DK.vi {kd : jx_K} {R : jx_R} {I : jx_I} {d : Nat} {v p : Nat → Int32} {q B : Nat} (h : DK kd R I d v p q B) : ∃ k T S N, VI v k T S N ∧ N ≤ B ∧ VX v k := by
  obtain ⟨P, t, L, hs, hM, hS⟩ := h
  obtain ⟨k', T', S', N', h1, h2, h3, h4⟩ := hM.2.2.1
  exact ⟨k', T', S', N', h2, h3, h4⟩
theorem DK.to {kd : jx_K} {R : jx_R} {I : jx_I} {d : Nat} {v p : Nat → Int32} {q B k T : Nat} (h : DK kd R I d v p q B) (h0 : v 0 = nI k) (hk : k ≤ 16) (h1 : v 1 = nI T) (hT : T ≤ 10000) : ∃ S N, VI v k T S N ∧ N ≤ B ∧ VX v k := by
  obtain ⟨k', T', S', N', h2, h3, h4⟩ := h.vi
  have a2 := h2.k16
  have b2 := h2.tl
  have e1 : k' = k := (nI_eq (by omega) (by omega)).mp (h2.z.symm.trans h0)
  have e2 : T' = T := (nI_eq (by omega) (by omega)).mp (h2.t.symm.trans h1)
  subst e1; subst e2
  exact ⟨S', N', h2, h3, h4⟩
theorem DK.q4 {kd : jx_K} {R : jx_R} {I : jx_I} {d : Nat} {v p : Nat → Int32} {q B : Nat} (h : DK kd R I d v p q B) : q ≤ 4 := by
  obtain ⟨P, t, L, hs, hM, hS⟩ := h
  exact hM.2.1
theorem DK.k5 {kd : jx_K} {R : jx_R} {I : jx_I} {d : Nat} {v p : Nat → Int32} {q B : Nat} (h : DK kd R I d v p q B) : kd d = (5, 0) := by
  obtain ⟨P, t, L, hs, hM, hS⟩ := h
  exact hs.1
theorem DK.mono {kd : jx_K} {R : jx_R} {I : jx_I} {d : Nat} {v p : Nat → Int32} {q B B1 : Nat} (h : DK kd R I d v p q B) (hB : B ≤ B1) : DK kd R I d v p q B1 := by
  obtain ⟨P, t, L, hs, hM, hS⟩ := h
  exact ⟨P, t, L, hs, hM.mono hB, hS⟩
theorem DK.cg {kd : jx_K} {R : jx_R} {I : jx_I} {d : Nat} {v u p : Nat → Int32} {q B : Nat} (h : DK kd R I d v p q B) (e : eqR u v) : DK kd R I d u p q B := by
  obtain ⟨P, t, L, hs, hM, hS⟩ := h
  exact ⟨P, t, L, hs, ⟨hM.1, hM.2.1, hM.2.2.1.cg e, hM.2.2.2⟩, hS⟩
/-- the rest of the heap may grow -/
theorem DK.grow {kd kd1 : jx_K} {R R1 : jx_R} {I I1 : jx_I} {d : Nat} {v p : Nat → Int32} {q B : Nat} (h : DK kd R I d v p q B) (ek : ∀ z, z < d + 344 → kd1 z = kd z) (eR : ∀ z, z < d + 344 → R1 z = R z) (eI : ∀ z, z < d + 344 → I1 z = I z) : DK kd1 R1 I1 d v p q B := by
  obtain ⟨P, t, L, hs, hM, hS⟩ := h
  have hs2 := hs.cg2 (kd1 := kd1) (R1 := R1) (fun z _ h => ek z h) (fun z _ h => eR z h)
  refine ⟨P, t, L, hs2, ?_, hS.fr (fun z _ h => eI z (by omega))⟩
  obtain ⟨h3, hq, h4, hp⟩ := hM
  have fr : ∀ i, i < 6 → ∀ z, stA d (P i) ≤ z → z < stA d (P i) + 56 → I1 z = I z := fun i hi z a b => eI z (by have := hs.hi hi; omega)
  exact ⟨by rw [eI d (by omega)]; exact h3, hq, h4.fr (fr 4 (by omega)), fun j hj => (hp j hj).fr (fr j (by omega))⟩
theorem DK.act {kd : jx_K} {R R' : jx_R} {I I' : jx_I} {d q B1 : Nat} {t v p W : Nat → Int32} {L : Nat} {X r : Int32} (hS : scI d I t L) (hq : r = X ∧ ∃ P', sDk kd R' d P' ∧ dFr d I I' ∧ rFr d R R' ∧ (X ≤ -20001 → dM I' d P' W p q B1) ∧ (¬ X ≤ -20001 → ∀ u, eqR u v → dM I' d P' W (kpP p q u) (kpC q) B1)) : r = X ∧ (X ≤ -20001 → DK kd R' I' d W p q B1) ∧ (¬ X ≤ -20001 → DK kd R' I' d W (kpP p q v) (kpC q) B1) := by
  obtain ⟨e, P', h1, h2, _, h4, h5⟩ := hq
  have hS1 : scI d I' t L := hS.fr (fun z a b => h2 z (by omega) (by omega) (by omega))
  exact ⟨e, fun h => ⟨P', t, L, h1, h4 h, hS1⟩, fun h => ⟨P', t, L, h1, h5 h v (fun _ _ => rfl), hS1⟩⟩
theorem fList_cg {v o o' : Nat → Int32} {k : Nat} {x : Int32} : fList v o k x = fList v o' k x := by
  have h := lsF_cg (v := v) (o := o) (o' := o') k
  have hk := (lsF_ok (v := v) (o := o) k).1
  unfold fList
  rw [← h.1]
  by_cases h0 : 0 ≤ x
  · rw [if_pos h0, if_pos h0]
    by_cases h1 : x < nI (lsF v o k).2
    · rw [if_pos h1, if_pos h1]
      obtain ⟨j, hj, rfl⟩ := nI_of (Int32.not_lt.mpr h0)
      rw [nI_clamp hj]
      by_cases hb : (lsF v o k).2 < 2147483648
      · exact h.2 j ((nI_ltI hj hb).mp h1)
      · exact h.2 j (by have : j < 2147483648 := hj; omega)
    · rw [if_neg h1, if_neg h1]
  · rw [if_neg h0, if_neg h0]
theorem lg_self {x : Int64} : lg_cmp x x = 0 := by
  unfold lg_cmp
  simp
theorem p_adde {E : jx_E} {l : Launch} {n : Nat} {kd : jx_K} {R : jx_R} {I : jx_I} {d : Nat} {v p : Nat → Int32} {q B k T S N : Nat} {x y a : Int32} (hD : DK kd R I d v p q B) (hV : VI v k T S N) (hN : N ≤ B) (hB : B + 70000 < 2147483000) (eX : (if okV x = true ∧ decide (nI 1 ≤ y ∧ y ≤ nI 4) = true then if k = 16 then -20003 else nI k else -20001) = a) (ha : a ≤ -20001) (eW : (if (okV x = true ∧ decide (nI 1 ≤ y ∧ y ≤ nI 4) = true) ∧ ¬ k = 16 then fAdd v k x y else v) = v) : jx_CiR E l yX5_add cX5_add 3 (some .int) 4 n kd R (I) [.ref d, .int x, .int y] (fun r R' I' => r = a ∧ DK kd R' I' d v p q (B + 60000)) := by
  obtain ⟨P, t, L, hs, hM, hS⟩ := hD
  obtain ⟨hA, hX⟩ := hM.at hV hN (by omega)
  refine (c_X5_add hs hM hA hV hN hX hB).post (fun r n' kd' R' I' hq => ?_)
  obtain ⟨h1, h2, x', h3, h4⟩ := hq
  obtain ⟨e, d1, d2⟩ := DK.act hS h4
  refine ⟨h1, h2, x', h3, e.trans eX, ?_⟩
  have := d1 (by rw [eX]; exact ha)
  rw [eW] at this
  exact this
theorem p_adds {E : jx_E} {l : Launch} {n : Nat} {kd : jx_K} {R : jx_R} {I : jx_I} {d : Nat} {v p : Nat → Int32} {q B k T S N : Nat} {x y a : Int32} {w : Nat → Int32} (hD : DK kd R I d v p q B) (hV : VI v k T S N) (hN : N ≤ B) (hB : B + 70000 < 2147483000) (eX : (if okV x = true ∧ decide (nI 1 ≤ y ∧ y ≤ nI 4) = true then if k = 16 then -20003 else nI k else -20001) = a) (ha : -20001 < a) (eW : (if (okV x = true ∧ decide (nI 1 ≤ y ∧ y ≤ nI 4) = true) ∧ ¬ k = 16 then fAdd v k x y else v) = w) : jx_CiR E l yX5_add cX5_add 3 (some .int) 4 n kd R (I) [.ref d, .int x, .int y] (fun r R' I' => r = a ∧ DK kd R' I' d w (kpP p q v) (kpC q) (B + 60000)) := by
  obtain ⟨P, t, L, hs, hM, hS⟩ := hD
  obtain ⟨hA, hX⟩ := hM.at hV hN (by omega)
  refine (c_X5_add hs hM hA hV hN hX hB).post (fun r n' kd' R' I' hq => ?_)
  obtain ⟨h1, h2, x', h3, h4⟩ := hq
  obtain ⟨e, d1, d2⟩ := DK.act hS h4
  refine ⟨h1, h2, x', h3, e.trans eX, ?_⟩
  have := d2 (by rw [eX]; exact Int32.not_le.mpr ha)
  rw [eW] at this
  exact this
theorem p_sete {E : jx_E} {l : Launch} {n : Nat} {kd : jx_K} {R : jx_R} {I : jx_I} {d : Nat} {v p : Nat → Int32} {q B k T S N : Nat} {x s y a : Int32} (hD : DK kd R I d v p q B) (hV : VI v k T S N) (hN : N ≤ B) (hB : B + 70000 < 2147483000) (eX : (if okP v x = true ∧ okS s y = true then v (176 + 56 * x.toNatClampNeg + s.toNatClampNeg) else -20001) = a) (ha : a ≤ -20001) (eW : (if okP v x = true ∧ okS s y = true then fSet v x s y else v) = v) : jx_CiR E l yX5_set cX5_set 4 (some .int) 4 n kd R (I) [.ref d, .int x, .int s, .int y] (fun r R' I' => r = a ∧ DK kd R' I' d v p q (B + 60000)) := by
  obtain ⟨P, t, L, hs, hM, hS⟩ := hD
  obtain ⟨hA, hX⟩ := hM.at hV hN (by omega)
  refine (c_X5_set hs hM hA hV hN hX hB).post (fun r n' kd' R' I' hq => ?_)
  obtain ⟨h1, h2, x', h3, h4⟩ := hq
  obtain ⟨e, d1, d2⟩ := DK.act hS h4
  refine ⟨h1, h2, x', h3, e.trans eX, ?_⟩
  have := d1 (by rw [eX]; exact ha)
  rw [eW] at this
  exact this
theorem p_sets {E : jx_E} {l : Launch} {n : Nat} {kd : jx_K} {R : jx_R} {I : jx_I} {d : Nat} {v p : Nat → Int32} {q B k T S N : Nat} {x s y a : Int32} {w : Nat → Int32} (hD : DK kd R I d v p q B) (hV : VI v k T S N) (hN : N ≤ B) (hB : B + 70000 < 2147483000) (eX : (if okP v x = true ∧ okS s y = true then v (176 + 56 * x.toNatClampNeg + s.toNatClampNeg) else -20001) = a) (ha : -20001 < a) (eW : (if okP v x = true ∧ okS s y = true then fSet v x s y else v) = w) : jx_CiR E l yX5_set cX5_set 4 (some .int) 4 n kd R (I) [.ref d, .int x, .int s, .int y] (fun r R' I' => r = a ∧ DK kd R' I' d w (kpP p q v) (kpC q) (B + 60000)) := by
  obtain ⟨P, t, L, hs, hM, hS⟩ := hD
  obtain ⟨hA, hX⟩ := hM.at hV hN (by omega)
  refine (c_X5_set hs hM hA hV hN hX hB).post (fun r n' kd' R' I' hq => ?_)
  obtain ⟨h1, h2, x', h3, h4⟩ := hq
  obtain ⟨e, d1, d2⟩ := DK.act hS h4
  refine ⟨h1, h2, x', h3, e.trans eX, ?_⟩
  have := d2 (by rw [eX]; exact Int32.not_le.mpr ha)
  rw [eW] at this
  exact this
theorem p_setRoote {E : jx_E} {l : Launch} {n : Nat} {kd : jx_K} {R : jx_R} {I : jx_I} {d : Nat} {v p : Nat → Int32} {q B k T S N : Nat} {x y a : Int32} (hD : DK kd R I d v p q B) (hV : VI v k T S N) (hN : N ≤ B) (hB : B + 70000 < 2147483000) (eX : (if okP v x = true ∧ (y = -1 ∨ okP v y = true) then if climb v x 16 y = x then -20002 else v (176 + 56 * x.toNatClampNeg + 8) else -20001) = a) (ha : a ≤ -20001) (eW : (if (okP v x = true ∧ (y = -1 ∨ okP v y = true)) ∧ ¬ climb v x 16 y = x then upd v (176 + 56 * x.toNatClampNeg + 8) y else v) = v) : jx_CiR E l yX5_setRoot cX5_setRoot 3 (some .int) 4 n kd R (I) [.ref d, .int x, .int y] (fun r R' I' => r = a ∧ DK kd R' I' d v p q (B + 60000)) := by
  obtain ⟨P, t, L, hs, hM, hS⟩ := hD
  obtain ⟨hA, hX⟩ := hM.at hV hN (by omega)
  refine (c_X5_setRoot hs hM hA hV hN hX hB).post (fun r n' kd' R' I' hq => ?_)
  obtain ⟨h1, h2, x', h3, h4⟩ := hq
  obtain ⟨e, d1, d2⟩ := DK.act hS h4
  refine ⟨h1, h2, x', h3, e.trans eX, ?_⟩
  have := d1 (by rw [eX]; exact ha)
  rw [eW] at this
  exact this
theorem p_setRoots {E : jx_E} {l : Launch} {n : Nat} {kd : jx_K} {R : jx_R} {I : jx_I} {d : Nat} {v p : Nat → Int32} {q B k T S N : Nat} {x y a : Int32} {w : Nat → Int32} (hD : DK kd R I d v p q B) (hV : VI v k T S N) (hN : N ≤ B) (hB : B + 70000 < 2147483000) (eX : (if okP v x = true ∧ (y = -1 ∨ okP v y = true) then if climb v x 16 y = x then -20002 else v (176 + 56 * x.toNatClampNeg + 8) else -20001) = a) (ha : -20001 < a) (eW : (if (okP v x = true ∧ (y = -1 ∨ okP v y = true)) ∧ ¬ climb v x 16 y = x then upd v (176 + 56 * x.toNatClampNeg + 8) y else v) = w) : jx_CiR E l yX5_setRoot cX5_setRoot 3 (some .int) 4 n kd R (I) [.ref d, .int x, .int y] (fun r R' I' => r = a ∧ DK kd R' I' d w (kpP p q v) (kpC q) (B + 60000)) := by
  obtain ⟨P, t, L, hs, hM, hS⟩ := hD
  obtain ⟨hA, hX⟩ := hM.at hV hN (by omega)
  refine (c_X5_setRoot hs hM hA hV hN hX hB).post (fun r n' kd' R' I' hq => ?_)
  obtain ⟨h1, h2, x', h3, h4⟩ := hq
  obtain ⟨e, d1, d2⟩ := DK.act hS h4
  refine ⟨h1, h2, x', h3, e.trans eX, ?_⟩
  have := d2 (by rw [eX]; exact Int32.not_le.mpr ha)
  rw [eW] at this
  exact this
theorem p_setValuee {E : jx_E} {l : Launch} {n : Nat} {kd : jx_K} {R : jx_R} {I : jx_I} {d : Nat} {v p : Nat → Int32} {q B k T S N : Nat} {x y a : Int32} (hD : DK kd R I d v p q B) (hV : VI v k T S N) (hN : N ≤ B) (hB : B + 70000 < 2147483000) (eX : (fVal v x y).1 = a) (ha : a ≤ -20001) (eW : (fVal v x y).2 = v) : jx_CiR E l yX5_setValue cX5_setValue 3 (some .int) 4 n kd R (I) [.ref d, .int x, .int y] (fun r R' I' => r = a ∧ DK kd R' I' d v p q (B + 60000)) := by
  obtain ⟨P, t, L, hs, hM, hS⟩ := hD
  obtain ⟨hA, hX⟩ := hM.at hV hN (by omega)
  refine (c_X5_setValue hs hM hA hV hN hX hB).post (fun r n' kd' R' I' hq => ?_)
  obtain ⟨h1, h2, x', h3, h4⟩ := hq
  obtain ⟨e, d1, d2⟩ := DK.act hS h4
  refine ⟨h1, h2, x', h3, e.trans eX, ?_⟩
  have := d1 (by rw [eX]; exact ha)
  rw [eW] at this
  exact this
theorem p_setValues {E : jx_E} {l : Launch} {n : Nat} {kd : jx_K} {R : jx_R} {I : jx_I} {d : Nat} {v p : Nat → Int32} {q B k T S N : Nat} {x y a : Int32} {w : Nat → Int32} (hD : DK kd R I d v p q B) (hV : VI v k T S N) (hN : N ≤ B) (hB : B + 70000 < 2147483000) (eX : (fVal v x y).1 = a) (ha : -20001 < a) (eW : (fVal v x y).2 = w) : jx_CiR E l yX5_setValue cX5_setValue 3 (some .int) 4 n kd R (I) [.ref d, .int x, .int y] (fun r R' I' => r = a ∧ DK kd R' I' d w (kpP p q v) (kpC q) (B + 60000)) := by
  obtain ⟨P, t, L, hs, hM, hS⟩ := hD
  obtain ⟨hA, hX⟩ := hM.at hV hN (by omega)
  refine (c_X5_setValue hs hM hA hV hN hX hB).post (fun r n' kd' R' I' hq => ?_)
  obtain ⟨h1, h2, x', h3, h4⟩ := hq
  obtain ⟨e, d1, d2⟩ := DK.act hS h4
  refine ⟨h1, h2, x', h3, e.trans eX, ?_⟩
  have := d2 (by rw [eX]; exact Int32.not_le.mpr ha)
  rw [eW] at this
  exact this
theorem p_setStatee {E : jx_E} {l : Launch} {n : Nat} {kd : jx_K} {R : jx_R} {I : jx_I} {d : Nat} {v p : Nat → Int32} {q B k T S N : Nat} {x a : Int32} (hD : DK kd R I d v p q B) (hV : VI v k T S N) (hN : N ≤ B) (hB : B + 70000 < 2147483000) (eX : (fMod v x).1 = a) (ha : a ≤ -20001) (eW : (fMod v x).2 = v) : jx_CiR E l yX5_setState cX5_setState 2 (some .int) 4 n kd R (I) [.ref d, .int x] (fun r R' I' => r = a ∧ DK kd R' I' d v p q (B + 60000)) := by
  obtain ⟨P, t, L, hs, hM, hS⟩ := hD
  obtain ⟨hA, hX⟩ := hM.at hV hN (by omega)
  refine (c_X5_setState hs hM hA hV hN hX hB).post (fun r n' kd' R' I' hq => ?_)
  obtain ⟨h1, h2, x', h3, h4⟩ := hq
  obtain ⟨e, d1, d2⟩ := DK.act hS h4
  refine ⟨h1, h2, x', h3, e.trans eX, ?_⟩
  have := d1 (by rw [eX]; exact ha)
  rw [eW] at this
  exact this
theorem p_setStates {E : jx_E} {l : Launch} {n : Nat} {kd : jx_K} {R : jx_R} {I : jx_I} {d : Nat} {v p : Nat → Int32} {q B k T S N : Nat} {x a : Int32} {w : Nat → Int32} (hD : DK kd R I d v p q B) (hV : VI v k T S N) (hN : N ≤ B) (hB : B + 70000 < 2147483000) (eX : (fMod v x).1 = a) (ha : -20001 < a) (eW : (fMod v x).2 = w) : jx_CiR E l yX5_setState cX5_setState 2 (some .int) 4 n kd R (I) [.ref d, .int x] (fun r R' I' => r = a ∧ DK kd R' I' d w (kpP p q v) (kpC q) (B + 60000)) := by
  obtain ⟨P, t, L, hs, hM, hS⟩ := hD
  obtain ⟨hA, hX⟩ := hM.at hV hN (by omega)
  refine (c_X5_setState hs hM hA hV hN hX hB).post (fun r n' kd' R' I' hq => ?_)
  obtain ⟨h1, h2, x', h3, h4⟩ := hq
  obtain ⟨e, d1, d2⟩ := DK.act hS h4
  refine ⟨h1, h2, x', h3, e.trans eX, ?_⟩
  have := d2 (by rw [eX]; exact Int32.not_le.mpr ha)
  rw [eW] at this
  exact this
theorem p_setFloode {E : jx_E} {l : Launch} {n : Nat} {kd : jx_K} {R : jx_R} {I : jx_I} {d : Nat} {v p : Nat → Int32} {q B k T S N : Nat} {x y z a : Int32} (hD : DK kd R I d v p q B) (hV : VI v k T S N) (hN : N ≤ B) (hB : B + 70000 < 2147483000) (eX : (if okF x y z = true then nI 10000 * v 5 + nI 100 * v 6 + v 7 else -20001) = a) (ha : a ≤ -20001) (eW : (if okF x y z = true then upd (upd (upd v 5 x) 6 y) 7 z else v) = v) : jx_CiR E l yX5_setFlood cX5_setFlood 4 (some .int) 4 n kd R (I) [.ref d, .int x, .int y, .int z] (fun r R' I' => r = a ∧ DK kd R' I' d v p q (B + 60000)) := by
  obtain ⟨P, t, L, hs, hM, hS⟩ := hD
  obtain ⟨hA, hX⟩ := hM.at hV hN (by omega)
  refine (c_X5_setFlood hs hM hA hV hN hX hB).post (fun r n' kd' R' I' hq => ?_)
  obtain ⟨h1, h2, x', h3, h4⟩ := hq
  obtain ⟨e, d1, d2⟩ := DK.act hS h4
  refine ⟨h1, h2, x', h3, e.trans eX, ?_⟩
  have := d1 (by rw [eX]; exact ha)
  rw [eW] at this
  exact this
theorem p_setFloods {E : jx_E} {l : Launch} {n : Nat} {kd : jx_K} {R : jx_R} {I : jx_I} {d : Nat} {v p : Nat → Int32} {q B k T S N : Nat} {x y z a : Int32} {w : Nat → Int32} (hD : DK kd R I d v p q B) (hV : VI v k T S N) (hN : N ≤ B) (hB : B + 70000 < 2147483000) (eX : (if okF x y z = true then nI 10000 * v 5 + nI 100 * v 6 + v 7 else -20001) = a) (ha : -20001 < a) (eW : (if okF x y z = true then upd (upd (upd v 5 x) 6 y) 7 z else v) = w) : jx_CiR E l yX5_setFlood cX5_setFlood 4 (some .int) 4 n kd R (I) [.ref d, .int x, .int y, .int z] (fun r R' I' => r = a ∧ DK kd R' I' d w (kpP p q v) (kpC q) (B + 60000)) := by
  obtain ⟨P, t, L, hs, hM, hS⟩ := hD
  obtain ⟨hA, hX⟩ := hM.at hV hN (by omega)
  refine (c_X5_setFlood hs hM hA hV hN hX hB).post (fun r n' kd' R' I' hq => ?_)
  obtain ⟨h1, h2, x', h3, h4⟩ := hq
  obtain ⟨e, d1, d2⟩ := DK.act hS h4
  refine ⟨h1, h2, x', h3, e.trans eX, ?_⟩
  have := d2 (by rw [eX]; exact Int32.not_le.mpr ha)
  rw [eW] at this
  exact this
theorem p_ticke {E : jx_E} {l : Launch} {n : Nat} {kd : jx_K} {R : jx_R} {I : jx_I} {d : Nat} {v p : Nat → Int32} {q B k T S N : Nat} {x a : Int32} (hD : DK kd R I d v p q B) (hV : VI v k T S N) (hN : N ≤ B) (hB : B + 70000 < 2147483000) (eX : (fTks v k T S x).1 = a) (ha : a ≤ -20001) (eW : (fTks v k T S x).2 = v) : jx_CiR E l yX5_tick cX5_tick 2 (some .int) 6 n kd R (I) [.ref d, .int x] (fun r R' I' => r = a ∧ DK kd R' I' d v p q (B + 60000)) := by
  obtain ⟨P, t, L, hs, hM, hS⟩ := hD
  obtain ⟨hA, hX⟩ := hM.at hV hN (by omega)
  refine (c_X5_tick hs hM hA hV hN hX hB).post (fun r n' kd' R' I' hq => ?_)
  obtain ⟨h1, h2, x', h3, h4⟩ := hq
  obtain ⟨e, d1, d2⟩ := DK.act hS h4
  refine ⟨h1, h2, x', h3, e.trans eX, ?_⟩
  have := d1 (by rw [eX]; exact ha)
  rw [eW] at this
  exact this
theorem p_ticks {E : jx_E} {l : Launch} {n : Nat} {kd : jx_K} {R : jx_R} {I : jx_I} {d : Nat} {v p : Nat → Int32} {q B k T S N : Nat} {x a : Int32} {w : Nat → Int32} (hD : DK kd R I d v p q B) (hV : VI v k T S N) (hN : N ≤ B) (hB : B + 70000 < 2147483000) (eX : (fTks v k T S x).1 = a) (ha : -20001 < a) (eW : (fTks v k T S x).2 = w) : jx_CiR E l yX5_tick cX5_tick 2 (some .int) 6 n kd R (I) [.ref d, .int x] (fun r R' I' => r = a ∧ DK kd R' I' d w (kpP p q v) (kpC q) (B + 60000)) := by
  obtain ⟨P, t, L, hs, hM, hS⟩ := hD
  obtain ⟨hA, hX⟩ := hM.at hV hN (by omega)
  refine (c_X5_tick hs hM hA hV hN hX hB).post (fun r n' kd' R' I' hq => ?_)
  obtain ⟨h1, h2, x', h3, h4⟩ := hq
  obtain ⟨e, d1, d2⟩ := DK.act hS h4
  refine ⟨h1, h2, x', h3, e.trans eX, ?_⟩
  have := d2 (by rw [eX]; exact Int32.not_le.mpr ha)
  rw [eW] at this
  exact this
theorem p_acke {E : jx_E} {l : Launch} {n : Nat} {kd : jx_K} {R : jx_R} {I : jx_I} {d : Nat} {v p : Nat → Int32} {q B k T S N : Nat} {x a : Int32} (hD : DK kd R I d v p q B) (hV : VI v k T S N) (hN : N ≤ B) (hB : B + 70000 < 2147483000) (eX : (fAck v x).1 = a) (ha : a ≤ -20001) (eW : (fAck v x).2 = v) : jx_CiR E l yX5_ack cX5_ack 2 (some .int) 4 n kd R (I) [.ref d, .int x] (fun r R' I' => r = a ∧ DK kd R' I' d v p q (B + 60000)) := by
  obtain ⟨P, t, L, hs, hM, hS⟩ := hD
  obtain ⟨hA, hX⟩ := hM.at hV hN (by omega)
  refine (c_X5_ack hs hM hA hV hN hX hB).post (fun r n' kd' R' I' hq => ?_)
  obtain ⟨h1, h2, x', h3, h4⟩ := hq
  obtain ⟨e, d1, d2⟩ := DK.act hS h4
  refine ⟨h1, h2, x', h3, e.trans eX, ?_⟩
  have := d1 (by rw [eX]; exact ha)
  rw [eW] at this
  exact this
theorem p_acks {E : jx_E} {l : Launch} {n : Nat} {kd : jx_K} {R : jx_R} {I : jx_I} {d : Nat} {v p : Nat → Int32} {q B k T S N : Nat} {x a : Int32} {w : Nat → Int32} (hD : DK kd R I d v p q B) (hV : VI v k T S N) (hN : N ≤ B) (hB : B + 70000 < 2147483000) (eX : (fAck v x).1 = a) (ha : -20001 < a) (eW : (fAck v x).2 = w) : jx_CiR E l yX5_ack cX5_ack 2 (some .int) 4 n kd R (I) [.ref d, .int x] (fun r R' I' => r = a ∧ DK kd R' I' d w (kpP p q v) (kpC q) (B + 60000)) := by
  obtain ⟨P, t, L, hs, hM, hS⟩ := hD
  obtain ⟨hA, hX⟩ := hM.at hV hN (by omega)
  refine (c_X5_ack hs hM hA hV hN hX hB).post (fun r n' kd' R' I' hq => ?_)
  obtain ⟨h1, h2, x', h3, h4⟩ := hq
  obtain ⟨e, d1, d2⟩ := DK.act hS h4
  refine ⟨h1, h2, x', h3, e.trans eX, ?_⟩
  have := d2 (by rw [eX]; exact Int32.not_le.mpr ha)
  rw [eW] at this
  exact this
theorem p_shelvee {E : jx_E} {l : Launch} {n : Nat} {kd : jx_K} {R : jx_R} {I : jx_I} {d : Nat} {v p : Nat → Int32} {q B k T S N : Nat} {x y a : Int32} (hD : DK kd R I d v p q B) (hV : VI v k T S N) (hN : N ≤ B) (hB : B + 70000 < 2147483000) (eX : (fShv v x y).1 = a) (ha : a ≤ -20001) (eW : (fShv v x y).2 = v) : jx_CiR E l yX5_shelve cX5_shelve 3 (some .int) 4 n kd R (I) [.ref d, .int x, .int y] (fun r R' I' => r = a ∧ DK kd R' I' d v p q (B + 60000)) := by
  obtain ⟨P, t, L, hs, hM, hS⟩ := hD
  obtain ⟨hA, hX⟩ := hM.at hV hN (by omega)
  refine (c_X5_shelve hs hM hA hV hN hX hB).post (fun r n' kd' R' I' hq => ?_)
  obtain ⟨h1, h2, x', h3, h4⟩ := hq
  obtain ⟨e, d1, d2⟩ := DK.act hS h4
  refine ⟨h1, h2, x', h3, e.trans eX, ?_⟩
  have := d1 (by rw [eX]; exact ha)
  rw [eW] at this
  exact this
theorem p_shelves {E : jx_E} {l : Launch} {n : Nat} {kd : jx_K} {R : jx_R} {I : jx_I} {d : Nat} {v p : Nat → Int32} {q B k T S N : Nat} {x y a : Int32} {w : Nat → Int32} (hD : DK kd R I d v p q B) (hV : VI v k T S N) (hN : N ≤ B) (hB : B + 70000 < 2147483000) (eX : (fShv v x y).1 = a) (ha : -20001 < a) (eW : (fShv v x y).2 = w) : jx_CiR E l yX5_shelve cX5_shelve 3 (some .int) 4 n kd R (I) [.ref d, .int x, .int y] (fun r R' I' => r = a ∧ DK kd R' I' d w (kpP p q v) (kpC q) (B + 60000)) := by
  obtain ⟨P, t, L, hs, hM, hS⟩ := hD
  obtain ⟨hA, hX⟩ := hM.at hV hN (by omega)
  refine (c_X5_shelve hs hM hA hV hN hX hB).post (fun r n' kd' R' I' hq => ?_)
  obtain ⟨h1, h2, x', h3, h4⟩ := hq
  obtain ⟨e, d1, d2⟩ := DK.act hS h4
  refine ⟨h1, h2, x', h3, e.trans eX, ?_⟩
  have := d2 (by rw [eX]; exact Int32.not_le.mpr ha)
  rw [eW] at this
  exact this
theorem p_unshelvee {E : jx_E} {l : Launch} {n : Nat} {kd : jx_K} {R : jx_R} {I : jx_I} {d : Nat} {v p : Nat → Int32} {q B k T S N : Nat} {x a : Int32} (hD : DK kd R I d v p q B) (hV : VI v k T S N) (hN : N ≤ B) (hB : B + 70000 < 2147483000) (eX : (fUns v x).1 = a) (ha : a ≤ -20001) (eW : (fUns v x).2 = v) : jx_CiR E l yX5_unshelve cX5_unshelve 2 (some .int) 4 n kd R (I) [.ref d, .int x] (fun r R' I' => r = a ∧ DK kd R' I' d v p q (B + 60000)) := by
  obtain ⟨P, t, L, hs, hM, hS⟩ := hD
  obtain ⟨hA, hX⟩ := hM.at hV hN (by omega)
  refine (c_X5_unshelve hs hM hA hV hN hX hB).post (fun r n' kd' R' I' hq => ?_)
  obtain ⟨h1, h2, x', h3, h4⟩ := hq
  obtain ⟨e, d1, d2⟩ := DK.act hS h4
  refine ⟨h1, h2, x', h3, e.trans eX, ?_⟩
  have := d1 (by rw [eX]; exact ha)
  rw [eW] at this
  exact this
theorem p_unshelves {E : jx_E} {l : Launch} {n : Nat} {kd : jx_K} {R : jx_R} {I : jx_I} {d : Nat} {v p : Nat → Int32} {q B k T S N : Nat} {x a : Int32} {w : Nat → Int32} (hD : DK kd R I d v p q B) (hV : VI v k T S N) (hN : N ≤ B) (hB : B + 70000 < 2147483000) (eX : (fUns v x).1 = a) (ha : -20001 < a) (eW : (fUns v x).2 = w) : jx_CiR E l yX5_unshelve cX5_unshelve 2 (some .int) 4 n kd R (I) [.ref d, .int x] (fun r R' I' => r = a ∧ DK kd R' I' d w (kpP p q v) (kpC q) (B + 60000)) := by
  obtain ⟨P, t, L, hs, hM, hS⟩ := hD
  obtain ⟨hA, hX⟩ := hM.at hV hN (by omega)
  refine (c_X5_unshelve hs hM hA hV hN hX hB).post (fun r n' kd' R' I' hq => ?_)
  obtain ⟨h1, h2, x', h3, h4⟩ := hq
  obtain ⟨e, d1, d2⟩ := DK.act hS h4
  refine ⟨h1, h2, x', h3, e.trans eX, ?_⟩
  have := d2 (by rw [eX]; exact Int32.not_le.mpr ha)
  rw [eW] at this
  exact this
theorem p_ackAll {E : jx_E} {l : Launch} {n : Nat} {kd : jx_K} {R : jx_R} {I : jx_I} {d : Nat} {v p : Nat → Int32} {q B k T S N : Nat} (hD : DK kd R I d v p q B) (hV : VI v k T S N) (hN : N ≤ B) (hB : B + 70000 < 2147483000) : jx_CiR E l yX5_ackAll cX5_ackAll 4 (some .int) 5 n kd R (I) [.ref d] (fun r R' I' => r = nI (aaF v (lsF v (fun _ => 0) k).1 (lsF v (fun _ => 0) k).2).2 ∧ DK kd R' I' d (aaF v (lsF v (fun _ => 0) k).1 (lsF v (fun _ => 0) k).2).1 (kpP p q v) (kpC q) (B + 60000)) := by
  obtain ⟨P, t, L, hs, hM, hS⟩ := hD
  obtain ⟨hA, hX⟩ := hM.at hV hN (by omega)
  refine (c_X5_ackAll (o := fun _ => 0) hs hM hA hV hN hX hB).post (fun r n' kd' R' I' hq => ?_)
  obtain ⟨h1, h2, x', h3, e, P', g1, g2, _, g4⟩ := hq
  exact ⟨h1, h2, x', h3, e, P', t, L, g1, g4 v (fun _ _ => rfl), hS.fr (fun z a b => g2 z (by omega) (by omega) (by omega))⟩
theorem p_undo0 {E : jx_E} {l : Launch} {n : Nat} {kd : jx_K} {R : jx_R} {I : jx_I} {d : Nat} {v p : Nat → Int32} {B : Nat} (hD : DK kd R I d v p 0 B) : jx_CiR E l yX5_undo cX5_undo 2 (some .int) 0 n kd R (I) [.ref d] (fun r R' I' => r = -20009 ∧ DK kd R' I' d v p 0 B) := by
  obtain ⟨P, t, L, hs, hM, hS⟩ := hD
  refine (c_X5_undo hs hM).post (fun r n' kd' R' I' hq => ?_)
  obtain ⟨h1, h2, x', h3, e, P', g1, g2, _, g4, _⟩ := hq
  exact ⟨h1, h2, x', h3, e, P', t, L, g1, g4 rfl, hS.fr (fun z a b => g2 z (by omega) (by omega) (by omega))⟩
/-- undone at once: the row is what it was -/
theorem p_undo {E : jx_E} {l : Launch} {n : Nat} {kd : jx_K} {R : jx_R} {I : jx_I} {d : Nat} {w v p : Nat → Int32} {q B : Nat} (hD : DK kd R I d w (kpP p q v) (kpC q) B) (hq : q ≤ 4) : jx_CiR E l yX5_undo cX5_undo 2 (some .int) 0 n kd R (I) [.ref d] (fun r R' I' => (∃ z, z ≤ 4 ∧ r = nI z) ∧ ∃ p' q', DK kd R' I' d v p' q' B) := by
  obtain ⟨P, t, L, hs, hM, hS⟩ := hD
  have hq0 : ¬ kpC q = 0 := by unfold kpC; split <;> omega
  have hq4 := kpC_le hq
  refine (c_X5_undo hs hM).post (fun r n' kd' R' I' hh => ?_)
  obtain ⟨h1, h2, x', h3, e, P', g1, g2, _, _, g5⟩ := hh
  rw [if_neg hq0] at e
  have ev : eqR v (unV (kpP p q v) w (kpC q - 1) 1080) := by
    intro j hj
    unfold unV
    rw [if_pos hj]
    by_cases c : q = 4
    · subst c
      exact (kpP_d hj).symm
    · have hk : kpC q - 1 = q := by unfold kpC; rw [if_neg c]; omega
      rw [hk]
      exact (kpP_b (by omega) hj).symm
  have hd : DK kd R' I' d (unV (kpP p q v) w (kpC q - 1) 1080) (kpP p q v) (kpC q - 1) B := ⟨P', t, L, g1, g5 hq0, hS.fr (fun z a b => g2 z (by omega) (by omega) (by omega))⟩
  exact ⟨h1, h2, x', h3, ⟨kpC q - 1, by omega, e⟩, _, _, hd.cg ev⟩
theorem p_points {E : jx_E} {l : Launch} {n : Nat} {kd : jx_K} {R : jx_R} {I : jx_I} {d : Nat} {v p : Nat → Int32} {q B k T S N : Nat} {a : Int32} (hD : DK kd R I d v p q B) (hV : VI v k T S N) (hN : N ≤ B) (hB : B + 70000 < 2147483000) (e : v 0 = a) : jx_Ci E l yX5_points cX5_points 1 (some .int) 0 n kd R (I) [.ref d] (fun r I' => r = a ∧ I' = I) := by
  obtain ⟨P, t, L, hs, hM, hS⟩ := hD
  obtain ⟨hA, hX⟩ := hM.at hV hN (by omega)
  subst e
  exact c_X5_points hs hA hV (by omega)
theorem p_events {E : jx_E} {l : Launch} {n : Nat} {kd : jx_K} {R : jx_R} {I : jx_I} {d : Nat} {v p : Nat → Int32} {q B k T S N : Nat} {a : Int32} (hD : DK kd R I d v p q B) (hV : VI v k T S N) (hN : N ≤ B) (hB : B + 70000 < 2147483000) (e : v 9 = a) : jx_Ci E l yX5_events cX5_events 1 (some .int) 0 n kd R (I) [.ref d] (fun r I' => r = a ∧ I' = I) := by
  obtain ⟨P, t, L, hs, hM, hS⟩ := hD
  obtain ⟨hA, hX⟩ := hM.at hV hN (by omega)
  subst e
  exact c_X5_events hs hA hV (by omega)
theorem p_plant {E : jx_E} {l : Launch} {n : Nat} {kd : jx_K} {R : jx_R} {I : jx_I} {d : Nat} {v p : Nat → Int32} {q B k T S N : Nat} {x a : Int32} (hD : DK kd R I d v p q B) (hV : VI v k T S N) (hN : N ≤ B) (hB : B + 70000 < 2147483000) (e : fPlant v T S x = a) : jx_Ci E l yX5_plant cX5_plant 2 (some .int) 2 n kd R (I) [.ref d, .int x] (fun r I' => r = a ∧ I' = I) := by
  obtain ⟨P, t, L, hs, hM, hS⟩ := hD
  obtain ⟨hA, hX⟩ := hM.at hV hN (by omega)
  subst e
  exact c_X5_plant hs hA hV (by omega)
theorem p_point {E : jx_E} {l : Launch} {n : Nat} {kd : jx_K} {R : jx_R} {I : jx_I} {d : Nat} {v p : Nat → Int32} {q B k T S N : Nat} {x y a : Int32} (hD : DK kd R I d v p q B) (hV : VI v k T S N) (hN : N ≤ B) (hB : B + 70000 < 2147483000) (e : fPoint v x y = a) : jx_Ci E l yX5_point cX5_point 3 (some .int) 5 n kd R (I) [.ref d, .int x, .int y] (fun r I' => r = a ∧ I' = I) := by
  obtain ⟨P, t, L, hs, hM, hS⟩ := hD
  obtain ⟨hA, hX⟩ := hM.at hV hN (by omega)
  subst e
  exact c_X5_point hs hA hV (by omega)
theorem p_event {E : jx_E} {l : Launch} {n : Nat} {kd : jx_K} {R : jx_R} {I : jx_I} {d : Nat} {v p : Nat → Int32} {q B k T S N : Nat} {x y a : Int32} (hD : DK kd R I d v p q B) (hV : VI v k T S N) (hN : N ≤ B) (hB : B + 70000 < 2147483000) (e : fEvent v N x y = a) : jx_Ci E l yX5_event cX5_event 3 (some .int) 2 n kd R (I) [.ref d, .int x, .int y] (fun r I' => r = a ∧ I' = I) := by
  obtain ⟨P, t, L, hs, hM, hS⟩ := hD
  obtain ⟨hA, hX⟩ := hM.at hV hN (by omega)
  subst e
  exact c_X5_event hs hA hV (by omega)
theorem p_count {E : jx_E} {l : Launch} {n : Nat} {kd : jx_K} {R : jx_R} {I : jx_I} {d : Nat} {v p : Nat → Int32} {q B k T S N : Nat} {x a : Int32} (hD : DK kd R I d v p q B) (hV : VI v k T S N) (hN : N ≤ B) (hB : B + 70000 < 2147483000) (e : fCount v k x = a) : jx_Ci E l yX5_count cX5_count 4 (some .int) 5 n kd R (I) [.ref d, .int x] (fun r I' => r = a ∧ I' = I) := by
  obtain ⟨P, t, L, hs, hM, hS⟩ := hD
  obtain ⟨hA, hX⟩ := hM.at hV hN (by omega)
  subst e
  exact c_X5_count hs hA hV (by omega)
theorem p_worst {E : jx_E} {l : Launch} {n : Nat} {kd : jx_K} {R : jx_R} {I : jx_I} {d : Nat} {v p : Nat → Int32} {q B k T S N : Nat} {a : Int32} (hD : DK kd R I d v p q B) (hV : VI v k T S N) (hN : N ≤ B) (hB : B + 70000 < 2147483000) (e : (wOut v N k).1 = a) : jx_Ci E l yX5_worst cX5_worst 5 (some .int) 5 n kd R (I) [.ref d] (fun r I' => r = a ∧ I' = I) := by
  obtain ⟨P, t, L, hs, hM, hS⟩ := hD
  obtain ⟨hA, hX⟩ := hM.at hV hN (by omega)
  subst e
  exact c_X5_worst hs hA hV (by omega)
theorem p_replay {E : jx_E} {l : Launch} {n : Nat} {kd : jx_K} {R : jx_R} {I : jx_I} {d : Nat} {v p : Nat → Int32} {q B k T S N : Nat} {x y a : Int32} (hD : DK kd R I d v p q B) (hV : VI v k T S N) (hN : N ≤ B) (hB : B + 70000 < 2147483000) (e : fReplay v x y = a) : jx_Ci E l yX5_replay cX5_replay 3 (some .int) 4 n kd R (I) [.ref d, .int x, .int y] (fun r I' => r = a ∧ I' = I) := by
  obtain ⟨P, t, L, hs, hM, hS⟩ := hD
  obtain ⟨hA, hX⟩ := hM.at hV hN (by omega)
  subst e
  exact c_X5_replay hs hA hV (by omega)
theorem p_leastDeadband {E : jx_E} {l : Launch} {n : Nat} {kd : jx_K} {R : jx_R} {I : jx_I} {d : Nat} {v p : Nat → Int32} {q B k T S N : Nat} {x y a : Int32} (hD : DK kd R I d v p q B) (hV : VI v k T S N) (hN : N ≤ B) (hB : B + 70000 < 2147483000) (e : fLeast v x y = a) : jx_Ci E l yX5_leastDeadband cX5_leastDeadband 3 (some .int) 4 n kd R (I) [.ref d, .int x, .int y] (fun r I' => r = a ∧ I' = I) := by
  obtain ⟨P, t, L, hs, hM, hS⟩ := hD
  obtain ⟨hA, hX⟩ := hM.at hV hN (by omega)
  subst e
  exact c_X5_leastDeadband hs hA hV (by omega)
theorem p_list {E : jx_E} {l : Launch} {n : Nat} {kd : jx_K} {R : jx_R} {I : jx_I} {d : Nat} {v p : Nat → Int32} {q B k T S N : Nat} {x a : Int32} (hD : DK kd R I d v p q B) (hV : VI v k T S N) (hN : N ≤ B) (hB : B + 70000 < 2147483000) (e : fList v (fun _ => 0) k x = a) : jx_Ci E l yX5_list cX5_list 3 (some .int) 5 n kd R (I) [.ref d, .int x] (fun r I' => r = a ∧ DK kd R I' d v p q B) := by
  obtain ⟨P, t, L, hs, hM, hS⟩ := hD
  obtain ⟨hA, hX⟩ := hM.at hV hN (by omega)
  refine (c_X5_list (x := x) hs hA hV (by omega)).post (fun r n' kd' R' I' hq => ?_)
  obtain ⟨h1, h2, h3, x', h4, h5, h6⟩ := hq
  refine ⟨h1, h2, h3, x', h4, ?_, P, t, L, hs, hM.fr hs (fun z hz => h6 z (by omega)), hS.fr (fun z _ _ => h6 z (by omega))⟩
  rw [h5, fList_cg (o' := fun _ => 0)]
  exact e
theorem p_type {E : jx_E} {l : Launch} {n : Nat} {kd : jx_K} {R : jx_R} {I : jx_I} {d : Nat} {v p : Nat → Int32} {q B k T S N : Nat} (hD : DK kd R I d v p q B) (hV : VI v k T S N) (hN : N ≤ B) (hB : B + 70000 < 2147483000) : jx_Ci E l yX5_type cX5_type 2 (some .int) 2 n kd R (I) [.ref d, .int (nI 31)] (fun r I' => r = -20001 ∧ DK kd R I' d v p q B) := by
  obtain ⟨P, t, L, hs, hM, hS⟩ := hD
  obtain ⟨hA, hX⟩ := hM.at hV hN (by omega)
  refine (c_X5_type (x := nI 31) hs hS).post (fun r n' kd' R' I' hq => ?_)
  obtain ⟨h1, h2, h3, x', h4, h5, h6, h7⟩ := hq
  rw [if_neg (by decide)] at h5
  rw [if_neg (fun z => absurd z.1 (by decide))] at h6
  exact ⟨h1, h2, h3, x', h4, h5, P, t, L, hs, hM.fr hs (fun z hz => h7 z (by omega)), h6⟩
theorem p_fingerprint {E : jx_E} {l : Launch} {n : Nat} {kd : jx_K} {R : jx_R} {I : jx_I} {d : Nat} {v p : Nat → Int32} {q B k T S N : Nat} (hD : DK kd R I d v p q B) (hV : VI v k T S N) (hN : N ≤ B) (hB : B + 70000 < 2147483000) : jx_C0 E l yX5_fingerprint cX5_fingerprint 5 (some .long) 6 n kd R I [.ref d] (fun r I' => r = some (.long (fpr v k T S N)) ∧ I' = I) := by
  obtain ⟨P, t, L, hs, hM, hS⟩ := hD
  obtain ⟨hA, hX⟩ := hM.at hV hN (by omega)
  exact c_X5_fingerprint hs hA hV (by omega)
theorem p_meanAck {E : jx_E} {l : Launch} {n : Nat} {kd : jx_K} {R : jx_R} {I : jx_I} {d : Nat} {v p : Nat → Int32} {q B k T S N : Nat} (hD : DK kd R I d v p q B) (hV : VI v k T S N) (hN : N ≤ B) (hB : B + 70000 < 2147483000) : jx_C0 E l yX5_meanAck cX5_meanAck 1 (some .float) 1 n kd R I [.ref d] (fun r I' => r = some (.float (fMean v)) ∧ I' = I) := by
  obtain ⟨P, t, L, hs, hM, hS⟩ := hD
  obtain ⟨hA, hX⟩ := hM.at hV hN (by omega)
  exact c_X5_meanAck hs hA hV (by omega)
