theorem sTick_lo {v : Nat → Int32} {k T S j : Nat} (h : j = 0 ∨ j = 2 ∨ j = 5 ∨ j = 6 ∨ j = 7 ∨ j = 10 ∨ j = 11) : sTick v k T S j = v j := by
  unfold sTick
  rw [ptA_o (by omega), fld_o (by omega) (by omega), shA_o (by omega) (by omega), lookA_o (by omega) (by omega), tk0_o (by omega) (by omega)]
theorem sTick_1 {v : Nat → Int32} {k T S : Nat} : sTick v k T S 1 = nI (T + 1) := by
  unfold sTick
  rw [ptA_o (by omega), fld_o (by omega) (by omega), shA_o (by omega) (by omega), lookA_o (by omega) (by omega), tk0_1]
theorem sTick_9 {v : Nat → Int32} {k T S N : Nat} (h16 : k ≤ 16) (hN : v 9 = nI N) (hb : N + 100 < 2147483000) : ∃ N', N ≤ N' ∧ N' ≤ N + 33 ∧ sTick v k T S 9 = nI N' := by
  have q9 : tk0 v T 9 = nI N := by rw [tk0_o (by omega) (by omega), hN]
  obtain ⟨N1, h1, h2, r9⟩ := lookA_9 (T := T + 1) q9 (by omega) k h16
  obtain ⟨N2, h3, h4, s9⟩ := shA_9 (T := T + 1) r9 (by omega) k h16
  obtain ⟨N3, h5, h6, f9⟩ := fld_9 (T := T + 1) (S := S) s9 (by omega)
  exact ⟨N3, by omega, by omega, by unfold sTick; rw [ptA_o (by omega), f9]⟩
/-- the fields of a point that a tick leaves alone: its settings, its value, its root, its shelf time -/
theorem sTick_f {v : Nat → Int32} {k T S a w : Nat} (h : w ≤ 8) : sTick v k T S (176 + 56 * a + w) = v (176 + 56 * a + w) := by
  unfold sTick
  rw [ptA_f (by omega), fld_o (by omega) (by omega), shA_f (by omega) (by omega), lookA_f (by omega) (by omega), tk0_o (by omega) (by omega)]
theorem ptA_15 {v : Nat → Int32} {a : Nat} : ∀ i, a < i → ptA v i (176 + 56 * a + 15) = nI (kpt v a + 1) := by
  intro i
  induction i with
  | zero => intro h; omega
  | succ i ih =>
    intro h
    have : kpt v i % 40 < 40 := Nat.mod_lt _ (by decide)
    rw [ptA]
    by_cases he : a = i
    · subst he
      exact pk_us
    · rw [pk_un (by omega), pk_un (by omega), ih (by omega)]
theorem sTick_15 {v : Nat → Int32} {k T S a K : Nat} (ha : a < k) (hK : v (176 + 56 * a + 15) = nI K) (hb : K < 1000000) : sTick v k T S (176 + 56 * a + 15) = nI (K + 1) := by
  unfold sTick
  rw [ptA_15 k ha, kpt, fld_o (by omega) (by omega), shA_f (by omega) (by omega), lookA_f (by omega) (by omega), tk0_o (by omega) (by omega), hK, nI_clamp (by omega)]
def tkF (v : Nat → Int32) (k T S : Nat) : Nat → (Nat → Int32)
  | 0 => v
  | j + 1 => sTick (tkF v k T S j) k (T + j) S
theorem tkF_lo {v : Nat → Int32} {k T S j : Nat} (h : j = 0 ∨ j = 2 ∨ j = 5 ∨ j = 6 ∨ j = 7 ∨ j = 10 ∨ j = 11) : ∀ i, tkF v k T S i j = v j := by
  intro i
  induction i with
  | zero => rfl
  | succ i ih => rw [tkF, sTick_lo h, ih]
theorem tkF_1 {v : Nat → Int32} {k T S : Nat} (hT : v 1 = nI T) : ∀ i, tkF v k T S i 1 = nI (T + i) := by
  intro i
  cases i with
  | zero => exact hT
  | succ i => rw [tkF, sTick_1]; rfl
theorem tkF_9 {v : Nat → Int32} {k T S N : Nat} (h16 : k ≤ 16) (hN : v 9 = nI N) (hb : N + 5000 < 2147483000) : ∀ i, i ≤ 100 → ∃ N', N ≤ N' ∧ N' ≤ N + 33 * i ∧ tkF v k T S i 9 = nI N' := by
  intro i
  induction i with
  | zero => intro _; exact ⟨N, Nat.le_refl _, by omega, hN⟩
  | succ i ih =>
    intro hi
    obtain ⟨N1, h1, h2, h3⟩ := ih (by omega)
    obtain ⟨N2, h4, h5, h6⟩ := sTick_9 (T := T + i) (S := S) h16 h3 (by omega)
    exact ⟨N2, by omega, by omega, by rw [tkF]; exact h6⟩
theorem tkF_15 {v : Nat → Int32} {k T S a K : Nat} (ha : a < k) (hK : v (176 + 56 * a + 15) = nI K) (hb : K < 100000) : ∀ i, i ≤ 100 → tkF v k T S i (176 + 56 * a + 15) = nI (K + i) := by
  intro i
  induction i with
  | zero => intro _; exact hK
  | succ i ih =>
    intro hi
    rw [tkF, sTick_15 ha (ih (by omega)) (by omega)]
    rfl
theorem tkF_f {v : Nat → Int32} {k T S a w : Nat} (h : w ≤ 8) : ∀ i, tkF v k T S i (176 + 56 * a + w) = v (176 + 56 * a + w) := by
  intro i
  induction i with
  | zero => rfl
  | succ i ih => rw [tkF, sTick_f h, ih]
def fTks (v : Nat → Int32) (k T S : Nat) (x : Int32) : Int32 × (Nat → Int32) :=
  if decide (nI 1 ≤ x ∧ x ≤ nI 100) = true then if T + x.toNatClampNeg ≤ 10000 then (nI (T + x.toNatClampNeg), tkF v k T S x.toNatClampNeg) else (-20002, v) else (-20001, v)
