/-! ===== the class: a state beside its row ===== -/
def sSt (kd : jx_K) (R : jx_R) (q : Nat) : Prop := kd q = (4, 0) ∧ kd (q + 1) = (9, 16) ∧ R q 0 = some (q + 1) ∧ R q 1 = some (q + 2) ∧ R q 2 = some (q + 4) ∧ sFl kd R (q + 2) ∧ sLg kd R (q + 4) ∧ ∀ i, i < 16 → R (q + 1) i = some (q + 8 + 3 * i) ∧ sPt kd R (q + 8 + 3 * i)
def aSt (I : jx_I) (q : Nat) (v : Nat → Int32) (k T : Nat) : Prop := (I q 3 = v 0 ∧ I q 4 = v 1 ∧ I q 5 = v 2 ∧ I q 6 = v 8 ∧ I q 7 = v 10 ∧ I q 8 = v 11) ∧ (I (q + 2) 1 = v 5 ∧ I (q + 2) 2 = v 6 ∧ I (q + 2) 3 = v 7 ∧ I (q + 2) 4 = v 3 ∧ I (q + 2) 5 = v 4) ∧ rgR (I (q + 2 + 1)) v T ∧ aLg I (q + 4) v ∧ ∀ i, i < k → aPt I (q + 8 + 3 * i) v i
def aFr (I0 I : jx_I) (q : Nat) : Prop := ∀ b, b < q ∨ q + 56 ≤ b → I b = I0 b
def aS (I0 I : jx_I) (q : Nat) (v : Nat → Int32) (k T S N : Nat) : Prop := aSt I q v k T ∧ VI v k T S N ∧ aFr I0 I q
theorem aS.num {I0 I : jx_I} {q : Nat} {v : Nat → Int32} {k T S N : Nat} (h : aS I0 I q v k T S N) : I q 3 = v 0 := h.1.1.1
theorem aS.tim {I0 I : jx_I} {q : Nat} {v : Nat → Int32} {k T S N : Nat} (h : aS I0 I q v k T S N) : I q 4 = v 1 := h.1.1.2.1
theorem aS.mod {I0 I : jx_I} {q : Nat} {v : Nat → Int32} {k T S N : Nat} (h : aS I0 I q v k T S N) : I q 5 = v 2 := h.1.1.2.2.1
theorem aS.act {I0 I : jx_I} {q : Nat} {v : Nat → Int32} {k T S N : Nat} (h : aS I0 I q v k T S N) : I q 6 = v 8 := h.1.1.2.2.2.1
theorem aS.akt {I0 I : jx_I} {q : Nat} {v : Nat → Int32} {k T S N : Nat} (h : aS I0 I q v k T S N) : I q 7 = v 10 := h.1.1.2.2.2.2.1
theorem aS.aks {I0 I : jx_I} {q : Nat} {v : Nat → Int32} {k T S N : Nat} (h : aS I0 I q v k T S N) : I q 8 = v 11 := h.1.1.2.2.2.2.2
theorem aS.f1 {I0 I : jx_I} {q : Nat} {v : Nat → Int32} {k T S N : Nat} (h : aS I0 I q v k T S N) : I (q + 2) 1 = v 5 := h.1.2.1.1
theorem aS.f2 {I0 I : jx_I} {q : Nat} {v : Nat → Int32} {k T S N : Nat} (h : aS I0 I q v k T S N) : I (q + 2) 2 = v 6 := h.1.2.1.2.1
theorem aS.f3 {I0 I : jx_I} {q : Nat} {v : Nat → Int32} {k T S N : Nat} (h : aS I0 I q v k T S N) : I (q + 2) 3 = v 7 := h.1.2.1.2.2.1
theorem aS.f4 {I0 I : jx_I} {q : Nat} {v : Nat → Int32} {k T S N : Nat} (h : aS I0 I q v k T S N) : I (q + 2) 4 = v 3 := h.1.2.1.2.2.2.1
theorem aS.f5 {I0 I : jx_I} {q : Nat} {v : Nat → Int32} {k T S N : Nat} (h : aS I0 I q v k T S N) : I (q + 2) 5 = v 4 := h.1.2.1.2.2.2.2
theorem aS.rg {I0 I : jx_I} {q : Nat} {v : Nat → Int32} {k T S N : Nat} (h : aS I0 I q v k T S N) : rgR (I (q + 2 + 1)) v T := h.1.2.2.1
theorem aS.lg {I0 I : jx_I} {q : Nat} {v : Nat → Int32} {k T S N : Nat} (h : aS I0 I q v k T S N) : aLg I (q + 4) v := h.1.2.2.2.1
theorem aS.pt {I0 I : jx_I} {q : Nat} {v : Nat → Int32} {k T S N i : Nat} (h : aS I0 I q v k T S N) (hi : i < k) : aPt I (q + 8 + 3 * i) v i := h.1.2.2.2.2 i hi
theorem aS.vi {I0 I : jx_I} {q : Nat} {v : Nat → Int32} {k T S N : Nat} (h : aS I0 I q v k T S N) : VI v k T S N := h.2.1
theorem aS.fr {I0 I : jx_I} {q : Nat} {v : Nat → Int32} {k T S N : Nat} (h : aS I0 I q v k T S N) : aFr I0 I q := h.2.2
theorem aFr.up {I0 I : jx_I} {q a j : Nat} {x : Int32} (h : aFr I0 I q) (h1 : q ≤ a) (h2 : a < q + 56) : aFr I0 (jx_up I a j x) q := fun b hb => by
  rw [← h b hb]
  funext k
  exact jx_upA (by omega)
theorem aPt_ext {I I' : jx_I} {p i : Nat} {v v' : Nat → Int32} (h : aPt I p v i) (hI : ∀ b, p ≤ b → b ≤ p + 2 → I' b = I b) (hv : ∀ w, w < 56 → v' (176 + 56 * i + w) = v (176 + 56 * i + w)) : aPt I' p v' i := by
  obtain ⟨hst, h15, h7, h8, h9, h10, h11, h12, h13, h14, hvl⟩ := h
  have e0 := hI p (by omega) (by omega)
  have e1 := hI (p + 1) (by omega) (by omega)
  have e2 := hI (p + 2) (by omega) (by omega)
  unfold aPt
  rw [e0, e1, e2, hv 15 (by omega), hv 7 (by omega), hv 8 (by omega), hv 9 (by omega), hv 10 (by omega), hv 11 (by omega), hv 12 (by omega), hv 13 (by omega), hv 14 (by omega)]
  exact ⟨fun j hj => (hst j hj).trans (hv j (by omega)).symm, h15, h7, h8, h9, h10, h11, h12, h13, h14, fun j hj hk => (hvl j hj hk).trans (hv (16 + j) (by omega)).symm⟩
theorem aLg_ext {I I' : jx_I} {g : Nat} {v v' : Nat → Int32} (h : aLg I g v) (hI : ∀ b, g ≤ b → b ≤ g + 3 → I' b = I b) (h9 : v' 9 = v 9) (hv : ∀ j, 80 ≤ j → j < 170 → v' j = v j) : aLg I' g v' := by
  unfold aLg at h ⊢
  rw [hI g (by omega) (by omega), hI (g + 1) (by omega) (by omega), hI (g + 2) (by omega) (by omega), hI (g + 3) (by omega) (by omega), h9]
  refine ⟨h.1, fun j hj => ?_⟩
  rw [hv _ (by omega) (by omega), hv _ (by omega) (by omega), hv _ (by omega) (by omega)]
  exact h.2 j hj
theorem rgR_ext {r r' v v' : Nat → Int32} {T : Nat} (h : rgR r v T) (hr : r' = r) (hv : ∀ j, 16 ≤ j → j < 80 → v' j = v j) : rgR r' v' T := fun t h1 h2 h3 => by
  rw [hr, hv _ (by omega) (by have : t % 64 < 64 := Nat.mod_lt _ (by decide); omega)]
  exact h t h1 h2 h3
/-- only point a's cells and numbers differ -/
theorem aSt_pt {I I' : jx_I} {q a : Nat} {v v' : Nat → Int32} {k T : Nat} (h : aSt I q v k T) (hI : ∀ b, b < q + 8 + 3 * a ∨ q + 8 + 3 * a + 2 < b → I' b = I b) (hv : ∀ j, j < 176 + 56 * a ∨ 176 + 56 * a + 56 ≤ j → v' j = v j) (hp : a < k → aPt I' (q + 8 + 3 * a) v' a) : aSt I' q v' k T := by
  obtain ⟨h1, h2, h3, h4, h5⟩ := h
  unfold aSt
  rw [hI q (by omega), hI (q + 2) (by omega), hv 0 (by omega), hv 1 (by omega), hv 2 (by omega), hv 3 (by omega), hv 4 (by omega), hv 5 (by omega), hv 6 (by omega), hv 7 (by omega), hv 8 (by omega), hv 10 (by omega), hv 11 (by omega)]
  refine ⟨h1, h2, rgR_ext h3 (hI _ (by omega)) (fun j _ _ => hv j (by omega)), aLg_ext h4 (fun b _ _ => hI b (by omega)) (hv 9 (by omega)) (fun j _ _ => hv j (by omega)), fun i hi => ?_⟩
  by_cases e : i = a
  · subst e; exact hp hi
  · exact aPt_ext (h5 i hi) (fun b _ _ => hI b (by omega)) (fun w _ => hv _ (by omega))
theorem aSt_lg {I I' : jx_I} {q : Nat} {v v' : Nat → Int32} {k T : Nat} (h : aSt I q v k T) (hI : ∀ b, b < q + 4 ∨ q + 7 < b → I' b = I b) (hv : ∀ j, j ≠ 9 → j < 80 ∨ 170 ≤ j → v' j = v j) (hl : aLg I' (q + 4) v') : aSt I' q v' k T := by
  obtain ⟨h1, h2, h3, h4, h5⟩ := h
  unfold aSt
  rw [hI q (by omega), hI (q + 2) (by omega), hv 0 (by omega) (by omega), hv 1 (by omega) (by omega), hv 2 (by omega) (by omega), hv 3 (by omega) (by omega), hv 4 (by omega) (by omega), hv 5 (by omega) (by omega), hv 6 (by omega) (by omega), hv 7 (by omega) (by omega), hv 8 (by omega) (by omega), hv 10 (by omega) (by omega), hv 11 (by omega) (by omega)]
  exact ⟨h1, h2, rgR_ext h3 (hI _ (by omega)) (fun j _ _ => hv j (by omega) (by omega)), hl, fun i hi => aPt_ext (h5 i hi) (fun b _ _ => hI b (by omega)) (fun w _ => hv _ (by omega) (by omega))⟩
theorem aSt_rg {I I' : jx_I} {q : Nat} {v v' : Nat → Int32} {k T : Nat} (h : aSt I q v k T) (hI : ∀ b, b ≠ q + 2 + 1 → I' b = I b) (hv : ∀ j, j < 16 ∨ 80 ≤ j → v' j = v j) (hl : rgR (I' (q + 2 + 1)) v' T) : aSt I' q v' k T := by
  obtain ⟨h1, h2, h3, h4, h5⟩ := h
  unfold aSt
  rw [hI q (by omega), hI (q + 2) (by omega), hv 0 (by omega), hv 1 (by omega), hv 2 (by omega), hv 3 (by omega), hv 4 (by omega), hv 5 (by omega), hv 6 (by omega), hv 7 (by omega), hv 8 (by omega), hv 10 (by omega), hv 11 (by omega)]
  exact ⟨h1, h2, hl, aLg_ext h4 (fun b _ _ => hI b (by omega)) (hv 9 (by omega)) (fun j _ _ => hv j (by omega)), fun i hi => aPt_ext (h5 i hi) (fun b _ _ => hI b (by omega)) (fun w _ => hv _ (by omega))⟩
theorem aSt_f {I I' : jx_I} {q : Nat} {v v' : Nat → Int32} {k T : Nat} (h : aSt I q v k T) (hI : ∀ b, b ≠ q + 2 → I' b = I b) (hv : ∀ j, j < 3 ∨ 8 ≤ j → v' j = v j) (hl : I' (q + 2) 1 = v' 5 ∧ I' (q + 2) 2 = v' 6 ∧ I' (q + 2) 3 = v' 7 ∧ I' (q + 2) 4 = v' 3 ∧ I' (q + 2) 5 = v' 4) : aSt I' q v' k T := by
  obtain ⟨h1, h2, h3, h4, h5⟩ := h
  unfold aSt
  rw [hI q (by omega), hv 0 (by omega), hv 1 (by omega), hv 2 (by omega), hv 8 (by omega), hv 10 (by omega), hv 11 (by omega)]
  exact ⟨h1, hl, rgR_ext h3 (hI _ (by omega)) (fun j _ _ => hv j (by omega)), aLg_ext h4 (fun b _ _ => hI b (by omega)) (hv 9 (by omega)) (fun j _ _ => hv j (by omega)), fun i hi => aPt_ext (h5 i hi) (fun b _ _ => hI b (by omega)) (fun w _ => hv _ (by omega))⟩
theorem aSt_q {I I' : jx_I} {q : Nat} {v v' : Nat → Int32} {k T : Nat} (h : aSt I q v k T) (hI : ∀ b, b ≠ q → I' b = I b) (hv : ∀ j, 3 ≤ j → j ≠ 8 → j ≠ 10 → j ≠ 11 → v' j = v j) (hl : I' q 3 = v' 0 ∧ I' q 4 = v' 1 ∧ I' q 5 = v' 2 ∧ I' q 6 = v' 8 ∧ I' q 7 = v' 10 ∧ I' q 8 = v' 11) : aSt I' q v' k T := by
  obtain ⟨h1, h2, h3, h4, h5⟩ := h
  unfold aSt
  rw [hI (q + 2) (by omega), hv 3 (by omega) (by omega) (by omega) (by omega), hv 4 (by omega) (by omega) (by omega) (by omega), hv 5 (by omega) (by omega) (by omega) (by omega), hv 6 (by omega) (by omega) (by omega) (by omega), hv 7 (by omega) (by omega) (by omega) (by omega)]
  exact ⟨hl, h2, rgR_ext h3 (hI _ (by omega)) (fun j _ _ => hv j (by omega) (by omega) (by omega) (by omega)), aLg_ext h4 (fun b _ _ => hI b (by omega)) (hv 9 (by omega) (by omega) (by omega) (by omega)) (fun j _ _ => hv j (by omega) (by omega) (by omega) (by omega)), fun i hi => aPt_ext (h5 i hi) (fun b _ _ => hI b (by omega)) (fun w _ => hv _ (by omega) (by omega) (by omega) (by omega))⟩

theorem aPt_3 {I : jx_I} {p i : Nat} {v : Nat → Int32} {x : Int32} (h : aPt I p v i) : aPt (jx_up I p 3 x) p (upd v (176 + 56 * i + 7) x) i := by
  obtain ⟨hst, h15, h7, h8, h9, h10, h11, h12, h13, h14, hvl⟩ := h
  refine ⟨fun j hj => ?_, ?_, ?_, ?_, ?_, ?_, ?_, ?_, ?_, ?_, fun j hj hk => ?_⟩
  · rw [jx_upA (by omega), pk_un (by omega)]; exact hst j hj
  · rw [jx_upK (by omega), pk_un (by omega)]; exact h15
  · rw [jx_upS, pk_us]
  · rw [jx_upK (by omega), pk_un (by omega)]; exact h8
  · rw [jx_upK (by omega), pk_un (by omega)]; exact h9
  · rw [jx_upK (by omega), pk_un (by omega)]; exact h10
  · rw [jx_upK (by omega), pk_un (by omega)]; exact h11
  · rw [jx_upK (by omega), pk_un (by omega)]; exact h12
  · rw [jx_upK (by omega), pk_un (by omega)]; exact h13
  · rw [jx_upK (by omega), pk_un (by omega)]; exact h14
  · rw [pk_un (by omega)] at hk
    rw [jx_upA (by omega), pk_un (by omega)]; exact hvl j hj hk

theorem aS.p3 {I0 I : jx_I} {q : Nat} {v : Nat → Int32} {k T S N : Nat} {a : Nat} {x : Int32} (h : aS I0 I q v k T S N) (ha : a < k) (hx : okW 7 x T) : aS I0 (jx_up I (q + 8 + 3 * a) 3 x) q (upd v (176 + 56 * a + 7) x) k T S N :=
  ⟨aSt_pt h.1 (fun b hb => funext fun _ => jx_upA (by omega)) (fun j hj => pk_un (by omega)) (fun _ => aPt_3 (h.pt ha)), h.vi.w (by omega) (by omega) hx, h.fr.up (by omega) (by have := h.vi.k16; omega)⟩
theorem aPt_4 {I : jx_I} {p i : Nat} {v : Nat → Int32} {x : Int32} (h : aPt I p v i) : aPt (jx_up I p 4 x) p (upd v (176 + 56 * i + 8) x) i := by
  obtain ⟨hst, h15, h7, h8, h9, h10, h11, h12, h13, h14, hvl⟩ := h
  refine ⟨fun j hj => ?_, ?_, ?_, ?_, ?_, ?_, ?_, ?_, ?_, ?_, fun j hj hk => ?_⟩
  · rw [jx_upA (by omega), pk_un (by omega)]; exact hst j hj
  · rw [jx_upK (by omega), pk_un (by omega)]; exact h15
  · rw [jx_upK (by omega), pk_un (by omega)]; exact h7
  · rw [jx_upS, pk_us]
  · rw [jx_upK (by omega), pk_un (by omega)]; exact h9
  · rw [jx_upK (by omega), pk_un (by omega)]; exact h10
  · rw [jx_upK (by omega), pk_un (by omega)]; exact h11
  · rw [jx_upK (by omega), pk_un (by omega)]; exact h12
  · rw [jx_upK (by omega), pk_un (by omega)]; exact h13
  · rw [jx_upK (by omega), pk_un (by omega)]; exact h14
  · rw [pk_un (by omega)] at hk
    rw [jx_upA (by omega), pk_un (by omega)]; exact hvl j hj hk

theorem aS.p4 {I0 I : jx_I} {q : Nat} {v : Nat → Int32} {k T S N : Nat} {a : Nat} {x : Int32} (h : aS I0 I q v k T S N) (ha : a < k) (hx : VI (upd v (176 + 56 * a + 8) x) k T S N) : aS I0 (jx_up I (q + 8 + 3 * a) 4 x) q (upd v (176 + 56 * a + 8) x) k T S N :=
  ⟨aSt_pt h.1 (fun b hb => funext fun _ => jx_upA (by omega)) (fun j hj => pk_un (by omega)) (fun _ => aPt_4 (h.pt ha)), hx, h.fr.up (by omega) (by have := h.vi.k16; omega)⟩
theorem aPt_5 {I : jx_I} {p i : Nat} {v : Nat → Int32} {x : Int32} (h : aPt I p v i) : aPt (jx_up I p 5 x) p (upd v (176 + 56 * i + 9) x) i := by
  obtain ⟨hst, h15, h7, h8, h9, h10, h11, h12, h13, h14, hvl⟩ := h
  refine ⟨fun j hj => ?_, ?_, ?_, ?_, ?_, ?_, ?_, ?_, ?_, ?_, fun j hj hk => ?_⟩
  · rw [jx_upA (by omega), pk_un (by omega)]; exact hst j hj
  · rw [jx_upK (by omega), pk_un (by omega)]; exact h15
  · rw [jx_upK (by omega), pk_un (by omega)]; exact h7
  · rw [jx_upK (by omega), pk_un (by omega)]; exact h8
  · rw [jx_upS, pk_us]
  · rw [jx_upK (by omega), pk_un (by omega)]; exact h10
  · rw [jx_upK (by omega), pk_un (by omega)]; exact h11
  · rw [jx_upK (by omega), pk_un (by omega)]; exact h12
  · rw [jx_upK (by omega), pk_un (by omega)]; exact h13
  · rw [jx_upK (by omega), pk_un (by omega)]; exact h14
  · rw [pk_un (by omega)] at hk
    rw [jx_upA (by omega), pk_un (by omega)]; exact hvl j hj hk

theorem aS.p5 {I0 I : jx_I} {q : Nat} {v : Nat → Int32} {k T S N : Nat} {a : Nat} {x : Int32} (h : aS I0 I q v k T S N) (ha : a < k) (hx : okW 9 x T) : aS I0 (jx_up I (q + 8 + 3 * a) 5 x) q (upd v (176 + 56 * a + 9) x) k T S N :=
  ⟨aSt_pt h.1 (fun b hb => funext fun _ => jx_upA (by omega)) (fun j hj => pk_un (by omega)) (fun _ => aPt_5 (h.pt ha)), h.vi.w (by omega) (by omega) hx, h.fr.up (by omega) (by have := h.vi.k16; omega)⟩
theorem aPt_6 {I : jx_I} {p i : Nat} {v : Nat → Int32} {x : Int32} (h : aPt I p v i) : aPt (jx_up I p 6 x) p (upd v (176 + 56 * i + 10) x) i := by
  obtain ⟨hst, h15, h7, h8, h9, h10, h11, h12, h13, h14, hvl⟩ := h
  refine ⟨fun j hj => ?_, ?_, ?_, ?_, ?_, ?_, ?_, ?_, ?_, ?_, fun j hj hk => ?_⟩
  · rw [jx_upA (by omega), pk_un (by omega)]; exact hst j hj
  · rw [jx_upK (by omega), pk_un (by omega)]; exact h15
  · rw [jx_upK (by omega), pk_un (by omega)]; exact h7
  · rw [jx_upK (by omega), pk_un (by omega)]; exact h8
  · rw [jx_upK (by omega), pk_un (by omega)]; exact h9
  · rw [jx_upS, pk_us]
  · rw [jx_upK (by omega), pk_un (by omega)]; exact h11
  · rw [jx_upK (by omega), pk_un (by omega)]; exact h12
  · rw [jx_upK (by omega), pk_un (by omega)]; exact h13
  · rw [jx_upK (by omega), pk_un (by omega)]; exact h14
  · rw [pk_un (by omega)] at hk
    rw [jx_upA (by omega), pk_un (by omega)]; exact hvl j hj hk

theorem aS.p6 {I0 I : jx_I} {q : Nat} {v : Nat → Int32} {k T S N : Nat} {a : Nat} {x : Int32} (h : aS I0 I q v k T S N) (ha : a < k) (hx : okW 10 x T) : aS I0 (jx_up I (q + 8 + 3 * a) 6 x) q (upd v (176 + 56 * a + 10) x) k T S N :=
  ⟨aSt_pt h.1 (fun b hb => funext fun _ => jx_upA (by omega)) (fun j hj => pk_un (by omega)) (fun _ => aPt_6 (h.pt ha)), h.vi.w (by omega) (by omega) hx, h.fr.up (by omega) (by have := h.vi.k16; omega)⟩
theorem aPt_7 {I : jx_I} {p i : Nat} {v : Nat → Int32} {x : Int32} (h : aPt I p v i) : aPt (jx_up I p 7 x) p (upd v (176 + 56 * i + 11) x) i := by
  obtain ⟨hst, h15, h7, h8, h9, h10, h11, h12, h13, h14, hvl⟩ := h
  refine ⟨fun j hj => ?_, ?_, ?_, ?_, ?_, ?_, ?_, ?_, ?_, ?_, fun j hj hk => ?_⟩
  · rw [jx_upA (by omega), pk_un (by omega)]; exact hst j hj
  · rw [jx_upK (by omega), pk_un (by omega)]; exact h15
  · rw [jx_upK (by omega), pk_un (by omega)]; exact h7
  · rw [jx_upK (by omega), pk_un (by omega)]; exact h8
  · rw [jx_upK (by omega), pk_un (by omega)]; exact h9
  · rw [jx_upK (by omega), pk_un (by omega)]; exact h10
  · rw [jx_upS, pk_us]
  · rw [jx_upK (by omega), pk_un (by omega)]; exact h12
  · rw [jx_upK (by omega), pk_un (by omega)]; exact h13
  · rw [jx_upK (by omega), pk_un (by omega)]; exact h14
  · rw [pk_un (by omega)] at hk
    rw [jx_upA (by omega), pk_un (by omega)]; exact hvl j hj hk

theorem aS.p7 {I0 I : jx_I} {q : Nat} {v : Nat → Int32} {k T S N : Nat} {a : Nat} {x : Int32} (h : aS I0 I q v k T S N) (ha : a < k) (hx : okW 11 x T) : aS I0 (jx_up I (q + 8 + 3 * a) 7 x) q (upd v (176 + 56 * a + 11) x) k T S N :=
  ⟨aSt_pt h.1 (fun b hb => funext fun _ => jx_upA (by omega)) (fun j hj => pk_un (by omega)) (fun _ => aPt_7 (h.pt ha)), h.vi.w (by omega) (by omega) hx, h.fr.up (by omega) (by have := h.vi.k16; omega)⟩
theorem aPt_8 {I : jx_I} {p i : Nat} {v : Nat → Int32} {x : Int32} (h : aPt I p v i) : aPt (jx_up I p 8 x) p (upd v (176 + 56 * i + 12) x) i := by
  obtain ⟨hst, h15, h7, h8, h9, h10, h11, h12, h13, h14, hvl⟩ := h
  refine ⟨fun j hj => ?_, ?_, ?_, ?_, ?_, ?_, ?_, ?_, ?_, ?_, fun j hj hk => ?_⟩
  · rw [jx_upA (by omega), pk_un (by omega)]; exact hst j hj
  · rw [jx_upK (by omega), pk_un (by omega)]; exact h15
  · rw [jx_upK (by omega), pk_un (by omega)]; exact h7
  · rw [jx_upK (by omega), pk_un (by omega)]; exact h8
  · rw [jx_upK (by omega), pk_un (by omega)]; exact h9
  · rw [jx_upK (by omega), pk_un (by omega)]; exact h10
  · rw [jx_upK (by omega), pk_un (by omega)]; exact h11
  · rw [jx_upS, pk_us]
  · rw [jx_upK (by omega), pk_un (by omega)]; exact h13
  · rw [jx_upK (by omega), pk_un (by omega)]; exact h14
  · rw [pk_un (by omega)] at hk
    rw [jx_upA (by omega), pk_un (by omega)]; exact hvl j hj hk

theorem aS.p8 {I0 I : jx_I} {q : Nat} {v : Nat → Int32} {k T S N : Nat} {a : Nat} {x : Int32} (h : aS I0 I q v k T S N) (ha : a < k) (hx : okW 12 x T) : aS I0 (jx_up I (q + 8 + 3 * a) 8 x) q (upd v (176 + 56 * a + 12) x) k T S N :=
  ⟨aSt_pt h.1 (fun b hb => funext fun _ => jx_upA (by omega)) (fun j hj => pk_un (by omega)) (fun _ => aPt_8 (h.pt ha)), h.vi.w (by omega) (by omega) hx, h.fr.up (by omega) (by have := h.vi.k16; omega)⟩
theorem aPt_9 {I : jx_I} {p i : Nat} {v : Nat → Int32} {x : Int32} (h : aPt I p v i) : aPt (jx_up I p 9 x) p (upd v (176 + 56 * i + 13) x) i := by
  obtain ⟨hst, h15, h7, h8, h9, h10, h11, h12, h13, h14, hvl⟩ := h
  refine ⟨fun j hj => ?_, ?_, ?_, ?_, ?_, ?_, ?_, ?_, ?_, ?_, fun j hj hk => ?_⟩
  · rw [jx_upA (by omega), pk_un (by omega)]; exact hst j hj
  · rw [jx_upK (by omega), pk_un (by omega)]; exact h15
  · rw [jx_upK (by omega), pk_un (by omega)]; exact h7
  · rw [jx_upK (by omega), pk_un (by omega)]; exact h8
  · rw [jx_upK (by omega), pk_un (by omega)]; exact h9
  · rw [jx_upK (by omega), pk_un (by omega)]; exact h10
  · rw [jx_upK (by omega), pk_un (by omega)]; exact h11
  · rw [jx_upK (by omega), pk_un (by omega)]; exact h12
  · rw [jx_upS, pk_us]
  · rw [jx_upK (by omega), pk_un (by omega)]; exact h14
  · rw [pk_un (by omega)] at hk
    rw [jx_upA (by omega), pk_un (by omega)]; exact hvl j hj hk

theorem aS.p9 {I0 I : jx_I} {q : Nat} {v : Nat → Int32} {k T S N : Nat} {a : Nat} {x : Int32} (h : aS I0 I q v k T S N) (ha : a < k) (hx : okW 13 x T) : aS I0 (jx_up I (q + 8 + 3 * a) 9 x) q (upd v (176 + 56 * a + 13) x) k T S N :=
  ⟨aSt_pt h.1 (fun b hb => funext fun _ => jx_upA (by omega)) (fun j hj => pk_un (by omega)) (fun _ => aPt_9 (h.pt ha)), h.vi.w (by omega) (by omega) hx, h.fr.up (by omega) (by have := h.vi.k16; omega)⟩
theorem aPt_10 {I : jx_I} {p i : Nat} {v : Nat → Int32} {x : Int32} (h : aPt I p v i) : aPt (jx_up I p 10 x) p (upd v (176 + 56 * i + 14) x) i := by
  obtain ⟨hst, h15, h7, h8, h9, h10, h11, h12, h13, h14, hvl⟩ := h
  refine ⟨fun j hj => ?_, ?_, ?_, ?_, ?_, ?_, ?_, ?_, ?_, ?_, fun j hj hk => ?_⟩
  · rw [jx_upA (by omega), pk_un (by omega)]; exact hst j hj
  · rw [jx_upK (by omega), pk_un (by omega)]; exact h15
  · rw [jx_upK (by omega), pk_un (by omega)]; exact h7
  · rw [jx_upK (by omega), pk_un (by omega)]; exact h8
  · rw [jx_upK (by omega), pk_un (by omega)]; exact h9
  · rw [jx_upK (by omega), pk_un (by omega)]; exact h10
  · rw [jx_upK (by omega), pk_un (by omega)]; exact h11
  · rw [jx_upK (by omega), pk_un (by omega)]; exact h12
  · rw [jx_upK (by omega), pk_un (by omega)]; exact h13
  · rw [jx_upS, pk_us]
  · rw [pk_un (by omega)] at hk
    rw [jx_upA (by omega), pk_un (by omega)]; exact hvl j hj hk

theorem aS.p10 {I0 I : jx_I} {q : Nat} {v : Nat → Int32} {k T S N : Nat} {a : Nat} {x : Int32} (h : aS I0 I q v k T S N) (ha : a < k) (hx : okW 14 x T) : aS I0 (jx_up I (q + 8 + 3 * a) 10 x) q (upd v (176 + 56 * a + 14) x) k T S N :=
  ⟨aSt_pt h.1 (fun b hb => funext fun _ => jx_upA (by omega)) (fun j hj => pk_un (by omega)) (fun _ => aPt_10 (h.pt ha)), h.vi.w (by omega) (by omega) hx, h.fr.up (by omega) (by have := h.vi.k16; omega)⟩
theorem aPt_s {I : jx_I} {p i s : Nat} {v : Nat → Int32} {x : Int32} (hs : s < 7) (h : aPt I p v i) : aPt (jx_up I (p + 1) s x) p (upd v (176 + 56 * i + s) x) i := by
  obtain ⟨hst, h15, h7, h8, h9, h10, h11, h12, h13, h14, hvl⟩ := h
  refine ⟨fun j hj => ?_, ?_, ?_, ?_, ?_, ?_, ?_, ?_, ?_, ?_, fun j hj hk => ?_⟩
  · by_cases e : j = s
    · subst e; rw [jx_upS, pk_us]
    · rw [jx_upK e, pk_un (by omega)]; exact hst j hj
  · rw [jx_upA (by omega), pk_un (by omega)]; exact h15
  · rw [jx_upA (by omega), pk_un (by omega)]; exact h7
  · rw [jx_upA (by omega), pk_un (by omega)]; exact h8
  · rw [jx_upA (by omega), pk_un (by omega)]; exact h9
  · rw [jx_upA (by omega), pk_un (by omega)]; exact h10
  · rw [jx_upA (by omega), pk_un (by omega)]; exact h11
  · rw [jx_upA (by omega), pk_un (by omega)]; exact h12
  · rw [jx_upA (by omega), pk_un (by omega)]; exact h13
  · rw [jx_upA (by omega), pk_un (by omega)]; exact h14
  · rw [pk_un (by omega)] at hk
    rw [jx_upA (by omega), pk_un (by omega)]; exact hvl j hj hk
theorem aS.ps {I0 I : jx_I} {q : Nat} {v : Nat → Int32} {k T S N : Nat} {a s : Nat} {x : Int32} (h : aS I0 I q v k T S N) (ha : a < k) (hs : s < 7) (hx : okS (nI s) x = true) : aS I0 (jx_up I (q + 8 + 3 * a + 1) s x) q (upd v (176 + 56 * a + s) x) k T S N :=
  ⟨aSt_pt h.1 (fun b hb => funext fun _ => jx_upA (by omega)) (fun j hj => pk_un (by omega)) (fun _ => aPt_s hs (h.pt ha)), h.vi.w (by omega) (by omega) (okW_st hs hx), h.fr.up (by omega) (by have := h.vi.k16; omega)⟩
theorem aPt_v {I : jx_I} {p i K : Nat} {v : Nat → Int32} {x : Int32} (hK : v (176 + 56 * i + 15) = nI K) (hK1 : K ≤ 100000) (h : aPt I p v i) : aPt (jx_up (jx_up I (p + 2) (K % 40) x) p 2 (nI (K + 1))) p (upd (upd v (176 + 56 * i + (16 + K % 40)) x) (176 + 56 * i + 15) (nI (K + 1))) i := by
  obtain ⟨hst, h15, h7, h8, h9, h10, h11, h12, h13, h14, hvl⟩ := h
  have hm : K % 40 < 40 := Nat.mod_lt _ (by decide)
  refine ⟨fun j hj => ?_, ?_, ?_, ?_, ?_, ?_, ?_, ?_, ?_, ?_, fun j hj hk => ?_⟩
  · rw [jx_upA (by omega), jx_upA (by omega), pk_un (by omega), pk_un (by omega)]; exact hst j hj
  · rw [jx_upS, pk_us]
  · rw [jx_upK (by omega), jx_upA (by omega), pk_un (by omega), pk_un (by omega)]; exact h7
  · rw [jx_upK (by omega), jx_upA (by omega), pk_un (by omega), pk_un (by omega)]; exact h8
  · rw [jx_upK (by omega), jx_upA (by omega), pk_un (by omega), pk_un (by omega)]; exact h9
  · rw [jx_upK (by omega), jx_upA (by omega), pk_un (by omega), pk_un (by omega)]; exact h10
  · rw [jx_upK (by omega), jx_upA (by omega), pk_un (by omega), pk_un (by omega)]; exact h11
  · rw [jx_upK (by omega), jx_upA (by omega), pk_un (by omega), pk_un (by omega)]; exact h12
  · rw [jx_upK (by omega), jx_upA (by omega), pk_un (by omega), pk_un (by omega)]; exact h13
  · rw [jx_upK (by omega), jx_upA (by omega), pk_un (by omega), pk_un (by omega)]; exact h14
  · rw [pk_us, nI_clamp (by omega)] at hk
    rw [jx_upA (by omega), pk_un (by omega)]
    by_cases e : j = K % 40
    · subst e
      rw [jx_upS, pk_us]
    · rw [jx_upK e, pk_un (by omega)]
      refine hvl j hj ?_
      rw [hK, nI_clamp (by omega)]
      omega
/-- the log's next row -/
theorem aS.hap {I0 I : jx_I} {q : Nat} {v : Nat → Int32} {k T S N : Nat} {w p : Int32} (h : aS I0 I q v k T S N) (hb : N < 2147483000) : aS I0 (jx_up (jx_up (jx_up (jx_up I (q + 4 + 1) (N % 30) (v 1)) (q + 4 + 2) (N % 30) w) (q + 4 + 3) (N % 30) p) (q + 4) 3 (nI (N + 1))) q (sHap v w p) k T S (N + 1) := by
  have hm : N % 30 < 30 := Nat.mod_lt _ (by decide)
  refine ⟨aSt_lg h.1 (fun b hb => funext fun j => ?_) (fun j h1 h2 => sHap_o ⟨h1, h2⟩) ⟨?_, fun j hj => ?_⟩, h.vi.hap hb, (((h.fr.up (by omega) (by omega)).up (by omega) (by omega)).up (by omega) (by omega)).up (by omega) (by omega)⟩
  · rw [jx_upA (by omega), jx_upA (by omega), jx_upA (by omega), jx_upA (by omega)]
  · rw [jx_upS, sHap_9 h.vi.n hb]
  · have hl := h.lg.2 j hj
    unfold sHap
    rw [evN_of h.vi.n hb, sHapN]
    by_cases e : j = N % 30
    · subst e
      refine ⟨?_, ?_, ?_⟩ <;> simp (disch := omega) only [jx_upS, jx_upA, jx_upK, pk_us, pk_un, Nat.add_zero]
    · refine ⟨?_, ?_, ?_⟩
      · simp (disch := omega) only [jx_upS, jx_upA, jx_upK, pk_us, pk_un]
        exact hl.1
      · simp (disch := omega) only [jx_upS, jx_upA, jx_upK, pk_us, pk_un]
        exact hl.2.1
      · simp (disch := omega) only [jx_upS, jx_upA, jx_upK, pk_us, pk_un]
        exact hl.2.2

