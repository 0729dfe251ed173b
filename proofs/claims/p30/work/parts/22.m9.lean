def sA1 (v : Nat → Int32) (i j : Nat) : Int32 := v (176 + 56 * i + 5) - v (176 + 56 * j + 5)
def sA2 (v : Nat → Int32) (i j : Nat) : Int32 := if sA1 v i j = 0 then v (176 + 56 * i + 10) - v (176 + 56 * j + 10) else sA1 v i j
def sA3 (v : Nat → Int32) (i j : Nat) : Int32 := if sA2 v i j = 0 then v (176 + 56 * i + 12) - v (176 + 56 * j + 12) else sA2 v i j
def sAhead (v : Nat → Int32) (i j : Nat) : Bool := if sA3 v i j = 0 then decide (i < j) else decide (sA3 v i j < 0)

def insO (v : Nat → Int32) (i : Nat) : Nat → (Nat → Int32) → (Nat → Int32)
  | 0, o => upd o 0 (nI i)
  | w + 1, o => if sAhead v i (o w).toNatClampNeg = true then insO v i w (upd o (w + 1) (o w)) else upd o (w + 1) (nI i)
def okO (o : Nat → Int32) (L k : Nat) : Prop := ∀ j, j < L → ∃ q, q < k ∧ o j = nI q
theorem insO_ok {v : Nat → Int32} {i k L : Nat} (hik : i < k) : ∀ (w : Nat) (o : Nat → Int32), (∀ j, j < L → j ≠ w → ∃ q, q < k ∧ o j = nI q) → okO (insO v i w o) L k := by
  intro w
  induction w with
  | zero =>
    intro o h j hj
    by_cases hz : j = 0
    · exact ⟨i, hik, by rw [hz]; exact pk_us⟩
    · obtain ⟨q, h1, h2⟩ := h j hj hz
      exact ⟨q, h1, by rw [insO, pk_un hz]; exact h2⟩
  | succ w ih =>
    intro o h j hj
    rw [insO]
    by_cases hc : sAhead v i (o w).toNatClampNeg = true
    · rw [if_pos hc]
      refine ih _ (fun j2 h2 h3 => ?_) j hj
      by_cases hz : j2 = w + 1
      · obtain ⟨q, h4, h5⟩ := h w (by omega) (by omega)
        exact ⟨q, h4, by rw [hz, pk_us]; exact h5⟩
      · obtain ⟨q, h4, h5⟩ := h j2 h2 hz
        exact ⟨q, h4, by rw [pk_un hz]; exact h5⟩
    · rw [if_neg hc]
      by_cases hz : j = w + 1
      · exact ⟨i, hik, by rw [hz]; exact pk_us⟩
      · obtain ⟨q, h1, h2⟩ := h j hj hz
        exact ⟨q, h1, by rw [pk_un hz]; exact h2⟩
def lsF (v o : Nat → Int32) : Nat → (Nat → Int32) × Nat
  | 0 => (o, 0)
  | i + 1 => if sWhy v i = 0 then (insO v i (lsF v o i).2 (lsF v o i).1, (lsF v o i).2 + 1) else lsF v o i
theorem lsF_ok {v o : Nat → Int32} : ∀ i, (lsF v o i).2 ≤ i ∧ okO (lsF v o i).1 (lsF v o i).2 i := by
  intro i
  induction i with
  | zero => exact ⟨Nat.le_refl _, fun j hj => absurd hj (Nat.not_lt_zero _)⟩
  | succ i ih =>
    rw [lsF]
    by_cases h : sWhy v i = 0
    · rw [if_pos h]
      refine ⟨by have := ih.1; simp only; omega, insO_ok (Nat.lt_succ_self i) _ _ (fun j hj hn => ?_)⟩
      obtain ⟨q, h1, h2⟩ := ih.2 j (by simp only at hj; omega)
      exact ⟨q, by omega, h2⟩
    · rw [if_neg h]
      exact ⟨by have := ih.1; omega, fun j hj => by
        obtain ⟨q, h1, h2⟩ := ih.2 j hj
        exact ⟨q, by omega, h2⟩⟩

def fList (v o : Nat → Int32) (k : Nat) (x : Int32) : Int32 := if 0 ≤ x then if x < nI (lsF v o k).2 then (lsF v o k).1 x.toNatClampNeg else -20009 else -20001
