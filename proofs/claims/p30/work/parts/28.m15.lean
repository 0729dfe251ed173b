def kp (v : Nat → Int32) (x : Int32) : Nat := kpt v x.toNatClampNeg
theorem kp_of {v : Nat → Int32} {i K : Nat} (h : v (176 + 56 * i + 15) = nI K) (hi : i < 16) (hb : K ≤ 50000) : kp v (nI i) = K := by
  rw [kp, nI_clamp (by omega), kpt, h, nI_clamp (by omega)]
def fReplay (v : Nat → Int32) (x y : Int32) : Int32 := if okP v x = true then if decide (nI 0 ≤ y ∧ y ≤ nI 1000) = true then plays v x.toNatClampNeg y (kp v x) else -20001 else -20001
/-- the least from d on, z of them -/
def ldF (f : Nat → Int32) (x : Int32) : Nat → Nat → Int32
  | 0, _ => -20009
  | z + 1, d => if f d ≤ x then nI d else ldF f x z (d + 1)
def fLeast (v : Nat → Int32) (x y : Int32) : Int32 := if okP v x = true then if decide (nI 0 ≤ y ∧ y ≤ nI 40) = true then ldF (fun d => plays v x.toNatClampNeg (nI d) (kp v x)) y 1001 0 else -20001 else -20001

/-- the activations of point i among the first a events back -/
def wIn (v : Nat → Int32) (N i : Nat) : Nat → Int32
  | 0 => nI 0
  | a + 1 => wIn v N i a + (if evOf v N a 1 = nI 1 then if evOf v N a 2 = nI i then nI 1 else nI 0 else nI 0)
def wA (N : Nat) : Nat := if N < 30 then N else 30
def wOut (v : Nat → Int32) (N : Nat) : Nat → Int32 × Int32
  | 0 => (-20009, nI 0)
  | i + 1 => ((if wIn v N i (wA N) ≤ (wOut v N i).2 then (wOut v N i).1 else nI i), (if wIn v N i (wA N) ≤ (wOut v N i).2 then (wOut v N i).2 else wIn v N i (wA N)))
