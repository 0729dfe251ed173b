/-! ===== p30: what holds of every row that the law makes ===== -/
def P1 (v : Nat → Int32) (T A i : Nat) : Prop := (∃ c, c ≤ 20 ∧ v (176 + 56 * i + 11) = nI c) ∧ ∃ a l, a ≤ A ∧ l ≤ T ∧ v (176 + 56 * i + 14) = nI a ∧ v (176 + 56 * i + 12) = nI l ∧ (a = 0 ↔ l = 0) ∧ (a = 0 → v (176 + 56 * i + 9) = nI 0 ∧ v (176 + 56 * i + 10) = nI 1)
def P2 (v : Nat → Int32) (T i : Nat) : Prop := (v (176 + 56 * i + 5) = nI 1 → v (176 + 56 * i + 13) = nI 0) ∧ (v (176 + 56 * i + 13) = nI 0 ∨ ∃ u, T < u ∧ u ≤ 11000 ∧ v (176 + 56 * i + 13) = nI u)
def sm (v : Nat → Int32) : Nat → Int32
  | 0 => nI 0
  | i + 1 => sm v i + v (176 + 56 * i + 14)
def PI (v : Nat → Int32) (k T : Nat) : Prop := (∀ i, i < k → P1 v T T i ∧ P2 v T i) ∧ v 8 = sm v k
theorem P1.cg {v u : Nat → Int32} {T A i : Nat} (h : P1 v T A i) (e : ∀ w, w = 9 ∨ w = 10 ∨ w = 11 ∨ w = 12 ∨ w = 14 → u (176 + 56 * i + w) = v (176 + 56 * i + w)) : P1 u T A i := by
  unfold P1 at *
  rw [e 9 (by omega), e 10 (by omega), e 11 (by omega), e 12 (by omega), e 14 (by omega)]
  exact h
theorem P1.mono {v : Nat → Int32} {T A T1 A1 i : Nat} (h : P1 v T A i) (hT : T ≤ T1) (hA : A ≤ A1) : P1 v T1 A1 i := by
  obtain ⟨h1, a, l, ha, hl, h2⟩ := h
  exact ⟨h1, a, l, by omega, by omega, h2⟩
theorem P2.cg {v u : Nat → Int32} {T i : Nat} (h : P2 v T i) (e : ∀ w, w = 5 ∨ w = 13 → u (176 + 56 * i + w) = v (176 + 56 * i + w)) : P2 u T i := by
  unfold P2 at *
  rw [e 5 (by omega), e 13 (by omega)]
  exact h
theorem sm_cg {v u : Nat → Int32} : ∀ k, (∀ i, i < k → u (176 + 56 * i + 14) = v (176 + 56 * i + 14)) → sm u k = sm v k := by
  intro k
  induction k with
  | zero => intro _; rfl
  | succ k ih =>
    intro h
    rw [sm, sm, ih (fun i hi => h i (by omega)), h k (by omega)]
theorem sm_one {v u : Nat → Int32} {i : Nat} {x : Int32} (e : u (176 + 56 * i + 14) = v (176 + 56 * i + 14) + x) : ∀ k, i < k → (∀ j, j < k → j ≠ i → u (176 + 56 * j + 14) = v (176 + 56 * j + 14)) → sm u k = sm v k + x := by
  intro k
  induction k with
  | zero => intro h; omega
  | succ k ih =>
    intro hi h
    by_cases hk : i = k
    · subst hk
      rw [sm, sm, sm_cg i (fun j hj => h j (by omega) (by omega)), e, Int32.add_assoc]
    · rw [sm, sm, ih (by omega) (fun j hj => h j (by omega)), h k (by omega) (by omega), Int32.add_assoc, Int32.add_assoc, Int32.add_comm x]
theorem sm_nat {v : Nat → Int32} {T : Nat} : ∀ k, (∀ i, i < k → ∃ a, a ≤ T ∧ v (176 + 56 * i + 14) = nI a) → ∃ A, A ≤ k * T ∧ sm v k = nI A := by
  intro k
  induction k with
  | zero => intro _; exact ⟨0, Nat.zero_le _, rfl⟩
  | succ k ih =>
    intro h
    obtain ⟨A, hA, e⟩ := ih (fun i hi => h i (by omega))
    obtain ⟨a, ha, e2⟩ := h k (by omega)
    refine ⟨A + a, ?_, by rw [sm, e, e2, nI_add]⟩
    rw [Nat.add_mul]
    omega
theorem PI.A {v : Nat → Int32} {k T : Nat} (h : PI v k T) : ∃ A, A ≤ k * T ∧ v 8 = nI A := by
  obtain ⟨A, hA, e⟩ := sm_nat (v := v) (T := T) k (fun i hi => by
    obtain ⟨_, a, l, ha, _, e, _⟩ := (h.1 i hi).1
    exact ⟨a, ha, e⟩)
  exact ⟨A, hA, h.2.trans e⟩
theorem PI.cg {v u : Nat → Int32} {k T : Nat} (h : PI v k T) (e : ∀ i w, i < k → w = 5 ∨ w = 9 ∨ w = 10 ∨ w = 11 ∨ w = 12 ∨ w = 13 ∨ w = 14 → u (176 + 56 * i + w) = v (176 + 56 * i + w)) (e8 : u 8 = v 8) : PI u k T := by
  refine ⟨fun i hi => ⟨(h.1 i hi).1.cg (fun w hw => e i w hi (by omega)), (h.1 i hi).2.cg (fun w hw => e i w hi (by omega))⟩, ?_⟩
  rw [e8, h.2, sm_cg k (fun i hi => e i 14 hi (by omega))]
theorem PI.u {v : Nat → Int32} {k T x w : Nat} {y : Int32} (h : PI v k T) (hw : w ≠ 5 ∧ w ≠ 9 ∧ w ≠ 10 ∧ w ≠ 11 ∧ w ≠ 12 ∧ w ≠ 13 ∧ w ≠ 14) (hw6 : w < 56) : PI (upd v (176 + 56 * x + w) y) k T :=
  h.cg (fun i z hi hz => pk_un (by omega)) (pk_un (by omega))
theorem PI.lo {v : Nat → Int32} {k T j : Nat} {y : Int32} (h : PI v k T) (hj : j < 176) (h8 : j ≠ 8) : PI (upd v j y) k T :=
  h.cg (fun i z hi hz => pk_un (by omega)) (pk_un (by omega))
theorem PI.hap {v : Nat → Int32} {k T : Nat} {w p : Int32} (h : PI v k T) : PI (sHap v w p) k T :=
  h.cg (fun i z hi hz => sHap_o (by omega)) (sHap_o (by omega))
/-- a row in which one point's shelf, priority or acknowledgement is another -/
theorem PI.one {v u : Nat → Int32} {k T x : Nat} (h : PI v k T) (e : ∀ i w, i < k → i ≠ x → w = 5 ∨ w = 9 ∨ w = 10 ∨ w = 11 ∨ w = 12 ∨ w = 13 ∨ w = 14 → u (176 + 56 * i + w) = v (176 + 56 * i + w)) (e8 : u 8 = v 8) (e14 : u (176 + 56 * x + 14) = v (176 + 56 * x + 14)) (p1 : x < k → P1 u T T x) (p2 : x < k → P2 u T x) : PI u k T := by
  refine ⟨fun i hi => ?_, ?_⟩
  · by_cases hx : i = x
    · subst hx; exact ⟨p1 hi, p2 hi⟩
    · exact ⟨(h.1 i hi).1.cg (fun w hw => e i w hi hx (by omega)), (h.1 i hi).2.cg (fun w hw => e i w hi hx (by omega))⟩
  · rw [e8, h.2, sm_cg k (fun i hi => ?_)]
    by_cases hx : i = x
    · subst hx; exact e14.symm
    · exact (e i 14 hi hx (by omega)).symm
theorem P2.z {v : Nat → Int32} {T i : Nat} (h : P2 v T i) (h0 : v (176 + 56 * i + 13) ≤ 0) : v (176 + 56 * i + 13) = nI 0 := by
  rcases h.2 with e | ⟨u, h1, h2, e⟩
  · exact e
  · rw [e] at h0
    exact absurd h0 (nI_nle (by omega) (by omega))
theorem PI.set {v : Nat → Int32} {k T x s : Nat} {y : Int32} (h : PI v k T) (hx : x < k) (h16 : k ≤ 16) (hs : s < 7) : PI (fSet v (nI x) (nI s) y) k T := by
  have hxk := h.1 x hx
  have r5 : ∀ j, j < 176 ∨ (∃ i w, i ≠ x ∧ w < 56 ∧ j = 176 + 56 * i + w) ∨ (∃ w, 7 ≤ w ∧ w < 56 ∧ j = 176 + 56 * x + w) → upd v (176 + 56 * x + s) y j = v j := by
    intro j hj
    refine pk_un ?_
    rcases hj with h1 | ⟨i, w, h1, h2, h3⟩ | ⟨w, h1, h2, h3⟩ <;> omega
  have r13 := r5 (176 + 56 * x + 13) (Or.inr (Or.inr ⟨13, by omega, by omega, rfl⟩))
  have oth : ∀ i w, i < k → i ≠ x → w = 5 ∨ w = 9 ∨ w = 10 ∨ w = 11 ∨ w = 12 ∨ w = 13 ∨ w = 14 → upd v (176 + 56 * x + s) y (176 + 56 * i + w) = v (176 + 56 * i + w) := fun i w _ hi hw => r5 _ (Or.inr (Or.inl ⟨i, w, hi, by omega, rfl⟩))
  have own : ∀ w, w = 9 ∨ w = 10 ∨ w = 11 ∨ w = 12 ∨ w = 14 → upd v (176 + 56 * x + s) y (176 + 56 * x + w) = v (176 + 56 * x + w) := fun w hw => r5 _ (Or.inr (Or.inr ⟨w, by omega, by omega, rfl⟩))
  unfold fSet
  rw [nI_clamp (show x < 2147483648 from by omega), nI_clamp (show s < 2147483648 from by omega)]
  by_cases c1 : upd v (176 + 56 * x + s) y (176 + 56 * x + 5) = nI 1
  · rw [if_pos c1]
    by_cases c2 : upd v (176 + 56 * x + s) y (176 + 56 * x + 13) ≤ 0
    · rw [if_pos c2]
      rw [r13] at c2
      have e0 := hxk.2.z c2
      exact h.one oth (r5 8 (Or.inl (by omega))) (own 14 (by omega)) (fun _ => hxk.1.cg own) (fun _ => ⟨fun _ => r13.trans e0, Or.inl (r13.trans e0)⟩)
    · rw [if_neg c2]
      refine PI.hap ?_
      refine h.one (x := x) (fun i w hi hix hw => (pk_un (by omega)).trans (oth i w hi hix hw)) ((pk_un (by omega)).trans (r5 8 (Or.inl (by omega)))) ((pk_un (by omega)).trans (own 14 (by omega))) (fun _ => hxk.1.cg (fun w hw => (pk_un (by omega)).trans (own w hw))) (fun _ => ⟨fun _ => pk_us, Or.inl pk_us⟩)
  · rw [if_neg c1]
    exact h.one oth (r5 8 (Or.inl (by omega))) (own 14 (by omega)) (fun _ => hxk.1.cg own) (fun _ => ⟨fun z => absurd z c1, by unfold P2 at hxk; rw [r13]; exact hxk.2.2⟩)
theorem fAck_f {v : Nat → Int32} {q a w : Nat} (hq : q < 16) (hw : w < 56) (h : a ≠ q ∨ w ≠ 10) : (fAck v (nI q)).2 (176 + 56 * a + w) = v (176 + 56 * a + w) := by
  unfold fAck
  rw [nI_clamp (show q < 2147483648 from by omega)]
  split
  · split
    · rfl
    · simp (disch := omega) only [sHap_o, pk_un]
  · rfl
theorem PI.ack {v : Nat → Int32} {k T x : Nat} (h : PI v k T) (h0 : v 0 = nI k) (h16 : k ≤ 16) (hx : x < k) : PI (fAck v (nI x)).2 k T := by
  have hxk := h.1 x hx
  by_cases ha : v (176 + 56 * x + 10) = nI 1
  · have e : (fAck v (nI x)).2 = v := by
      unfold fAck
      rw [nI_clamp (show x < 2147483648 from by omega), if_pos (okP_of h0 h16 hx), if_pos ha]
    rw [e]; exact h
  · refine h.one (x := x) (fun i w hi hix hw => fAck_f (by omega) (by omega) (Or.inl hix)) (fAck_lo (by omega)) (fAck_f (by omega) (by omega) (Or.inr (by omega))) (fun _ => ?_) (fun _ => hxk.2.cg (fun w hw => fAck_f (by omega) (by omega) (Or.inr (by omega))))
    obtain ⟨c, a, l, h1, h2, h3, h4, h5, h6⟩ := hxk.1
    refine ⟨?_, a, l, h1, h2, (fAck_f (by omega) (by omega) (Or.inr (by omega))).trans h3, (fAck_f (by omega) (by omega) (Or.inr (by omega))).trans h4, h5, fun z => absurd (h6 z).2 ha⟩
    rw [fAck_f (by omega) (by omega) (Or.inr (by omega))]
    exact c
theorem PI.shv {v : Nat → Int32} {k T x y : Nat} (h : PI v k T) (h0 : v 0 = nI k) (h1 : v 1 = nI T) (hT : T ≤ 10000) (h16 : k ≤ 16) (hx : x < k) (hy : 1 ≤ y) (hy2 : y ≤ 1000) : PI (fShv v (nI x) (nI y)).2 k T := by
  have hxk := h.1 x hx
  unfold fShv
  rw [nI_clamp (show x < 2147483648 from by omega)]
  split
  · split
    · split
      · exact h
      · rename_i c
        refine PI.hap ?_
        refine h.one (x := x) (fun i w hi hix hw => pk_un (by omega)) (pk_un (by omega)) (pk_un (by omega)) (fun _ => hxk.1.cg (fun w hw => pk_un (by omega))) (fun _ => ⟨fun z => absurd ((pk_un (by omega)).symm.trans z) c, Or.inr ⟨T + y, by omega, by omega, ?_⟩⟩)
        rw [pk_us, h1, nI_add]
    · exact h
  · exact h
theorem PI.uns {v : Nat → Int32} {k T x : Nat} (h : PI v k T) (h16 : k ≤ 16) (hx : x < k) : PI (fUns v (nI x)).2 k T := by
  have hxk := h.1 x hx
  unfold fUns
  rw [nI_clamp (show x < 2147483648 from by omega)]
  split
  · split
    · exact h
    · refine PI.hap ?_
      exact h.one (x := x) (fun i w hi hix hw => pk_un (by omega)) (pk_un (by omega)) (pk_un (by omega)) (fun _ => hxk.1.cg (fun w hw => pk_un (by omega))) (fun _ => ⟨fun _ => pk_us, Or.inl pk_us⟩)
  · exact h
theorem PI.val {v : Nat → Int32} {k T x : Nat} {y : Int32} (h : PI v k T) (h16 : x < 16) : PI (fVal v (nI x) y).2 k T := by
  unfold fVal
  rw [nI_clamp (show x < 2147483648 from by omega)]
  split
  · split
    · exact h.u (by omega) (by omega)
    · exact h
  · exact h
theorem PI.mod {v : Nat → Int32} {k T : Nat} {y : Int32} (h : PI v k T) : PI (fMod v y).2 k T := by
  unfold fMod
  split
  · exact h.lo (by omega) (by omega)
  · exact h
theorem zeroP_r {v : Nat → Int32} {k i w : Nat} (hw : w < 56) (hi : i ≠ k) : zeroP v k 56 (176 + 56 * i + w) = v (176 + 56 * i + w) := by
  unfold zeroP
  rw [if_neg (by omega)]
theorem zeroP_z {v : Nat → Int32} {k w : Nat} (hw : w < 56) : zeroP v k 56 (176 + 56 * k + w) = 0 := by
  unfold zeroP
  rw [if_pos (by omega)]
theorem PI.add {v : Nat → Int32} {k T : Nat} {x y : Int32} (h : PI v k T) : PI (fAdd v k x y) (k + 1) T := by
  have e : ∀ i w, i < k → w < 56 → fAdd v k x y (176 + 56 * i + w) = v (176 + 56 * i + w) := by
    intro i w hi hw
    unfold fAdd
    simp (disch := omega) only [pk_un, zeroP_r]
  have z : ∀ w, w < 56 → w ≠ 1 ∧ w ≠ 5 ∧ w ≠ 8 ∧ w ≠ 10 → fAdd v k x y (176 + 56 * k + w) = 0 := by
    intro w hw hw2
    unfold fAdd
    simp (disch := omega) only [pk_un, zeroP_z]
  have z10 : fAdd v k x y (176 + 56 * k + 10) = nI 1 := by
    unfold fAdd
    simp (disch := omega) only [pk_un, pk_us]
  refine ⟨fun i hi => ?_, ?_⟩
  · by_cases hk : i = k
    · subst hk
      exact ⟨⟨⟨0, by omega, z 11 (by omega) (by omega)⟩, 0, 0, by omega, by omega, z 14 (by omega) (by omega), z 12 (by omega) (by omega), Iff.rfl, fun _ => ⟨z 9 (by omega) (by omega), z10⟩⟩, fun _ => z 13 (by omega) (by omega), Or.inl (z 13 (by omega) (by omega))⟩
    · have hi' : i < k := by omega
      exact ⟨(h.1 i hi').1.cg (fun w hw => e i w hi' (by omega)), (h.1 i hi').2.cg (fun w hw => e i w hi' (by omega))⟩
  · rw [sm, z 14 (by omega) (by omega), sm_cg k (fun i hi => e i 14 hi (by omega)), ← h.2]
    unfold fAdd
    simp (disch := omega) only [pk_un, zeroP_lo, Int32.add_zero]
