theorem in_nat {x : Int32} {a b : Nat} (h : decide (nI a ≤ x ∧ x ≤ nI b) = true) (ha : a < 2147483648) (hb : b < 2147483648) : ∃ j, a ≤ j ∧ j ≤ b ∧ x = nI j := by
  obtain ⟨h1, h2⟩ := of_decide_eq_true h
  have h0 : ¬ x < 0 := fun z => by
    have e1 := Int32.le_iff_toInt_le.mp h1
    have e2 := Int32.lt_iff_toInt_lt.mp z
    rw [nI_toInt ha] at e1
    have : (0 : Int32).toInt = 0 := rfl
    omega
  obtain ⟨j, hj, rfl⟩ := nI_of h0
  exact ⟨j, (nI_leI ha hj).mp h1, (nI_leI hj hb).mp h2, rfl⟩
/-- the place where the climb from z along the roots ends -/
def climb (v : Nat → Int32) (x : Int32) : Nat → Int32 → Int32
  | 0, z => z
  | f + 1, z => if z < 0 then z else if z = x then z else climb v x f (v (176 + 56 * z.toNatClampNeg + 8))
theorem climb_n {v : Nat → Int32} {x z : Int32} {f : Nat} (h : z < 0) : climb v x f z = z := by cases f <;> simp [climb, h]
theorem climb_e {v : Nat → Int32} {x : Int32} {f : Nat} (h : ¬ x < 0) : climb v x (f + 1) x = x := by simp [climb, h]
def fPoint (v : Nat → Int32) (x y : Int32) : Int32 :=
  if okP v x = true then if decide (nI 0 ≤ y ∧ y ≤ nI 15) = true then (if y.toNatClampNeg < 15 then v (176 + 56 * x.toNatClampNeg + y.toNatClampNeg) else sWhy v x.toNatClampNeg) else -20001 else -20001
/-- a number of an event: a places back -/
def evOf (v : Nat → Int32) (N a w : Nat) : Int32 := if a < 30 then if a < N then v (80 + 3 * ((N - 1 - a) % 30) + w) else -20009 else -20009
def fEvent (v : Nat → Int32) (N : Nat) (x y : Int32) : Int32 := if x < 0 then -20001 else if decide (nI 0 ≤ y ∧ y ≤ nI 2) = true then evOf v N x.toNatClampNeg y.toNatClampNeg else -20001
