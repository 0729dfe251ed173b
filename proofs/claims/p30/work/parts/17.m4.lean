/-- the roots above x: is one in alarm (fuel first) -/
def anyUp (v : Nat → Int32) : Nat → Int32 → Bool → Bool
  | 0, _, b => b
  | f + 1, x, b => if x < 0 then b else anyUp v f (v (176 + 56 * x.toNatClampNeg + 8)) (b || decide (v (176 + 56 * x.toNatClampNeg + 9) = nI 1))
theorem anyUp_n (v : Nat → Int32) (f : Nat) (x : Int32) (b : Bool) (h : x < 0) : anyUp v f x b = b := by cases f <;> simp [anyUp, h]
/-- the roots have an order -/
def RK (v : Nat → Int32) (k : Nat) (rk : Nat → Nat) : Prop := ∀ i, i < k → rk i < 16 ∧ (v (176 + 56 * i + 8) = -1 ∨ ∃ j, j < k ∧ v (176 + 56 * i + 8) = nI j ∧ rk j < rk i)
def rkUp (k : Nat) (rk : Nat → Nat) (f : Nat) (x : Int32) : Prop := x = -1 ∨ ∃ j, j < k ∧ x = nI j ∧ rk j < f
theorem m1_neg : (-1 : Int32) < 0 := by decide
def sStand (v : Nat → Int32) (i : Nat) : Bool := decide (v (176 + 56 * i + 9) = nI 1) || decide (v (176 + 56 * i + 10) = 0)
def sWhy (v : Nat → Int32) (i : Nat) : Int32 :=
  if sStand v i = true then
    if v (176 + 56 * i + 13) ≤ 0 then
      if v (176 + 56 * i + 5) = nI 1 then nI 0
      else if (v (176 + 56 * i + 6) >>> (v 2 &&& 31)) &&& nI 1 = nI 1 then nI 2
      else if anyUp v 16 (v (176 + 56 * i + 8)) false = true then nI 3
      else if v 3 = nI 1 then
        if v (176 + 56 * i + 12) < v 4 then nI 0
        else if v (176 + 56 * i + 5) ≤ nI 2 then nI 0 else nI 4
      else nI 0
    else nI 1
  else (-20009)
