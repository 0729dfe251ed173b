/-! what a command does: its answer, and the row behind it -/
def fVal (v : Nat → Int32) (x y : Int32) : Int32 × (Nat → Int32) :=
  if okP v x = true then if okV y = true then (v (176 + 56 * x.toNatClampNeg + 7), upd v (176 + 56 * x.toNatClampNeg + 7) y) else (-20001, v) else (-20001, v)
def fMod (v : Nat → Int32) (x : Int32) : Int32 × (Nat → Int32) := if decide (nI 0 ≤ x ∧ x ≤ nI 3) = true then (v 2, upd v 2 x) else (-20001, v)
def fAck (v : Nat → Int32) (x : Int32) : Int32 × (Nat → Int32) :=
  if okP v x = true then
    if v (176 + 56 * x.toNatClampNeg + 10) = nI 1 then (-20002, v)
    else (v 1 - v (176 + 56 * x.toNatClampNeg + 12), sHap (upd (upd (upd v (176 + 56 * x.toNatClampNeg + 10) (nI 1)) 10 (v 10 + (v 1 - v (176 + 56 * x.toNatClampNeg + 12)))) 11 (v 11 + nI 1)) (nI 3) x)
  else (-20001, v)
def fShv (v : Nat → Int32) (x y : Int32) : Int32 × (Nat → Int32) :=
  if okP v x = true then
    if decide (nI 1 ≤ y ∧ y ≤ nI 1000) = true then
      if v (176 + 56 * x.toNatClampNeg + 5) = nI 1 then (-20002, v)
      else (v 1 + y, sHap (upd v (176 + 56 * x.toNatClampNeg + 13) (v 1 + y)) (nI 4) x)
    else (-20001, v)
  else (-20001, v)

/-- the activations from t down to the window's end -/
def rsum (v : Nat → Int32) (T S : Nat) : Nat → Int32 → Int32
  | 0, acc => acc
  | t + 1, acc => if T < t + 1 + S then rsum v T S t (acc + v (16 + (t + 1) % 64)) else acc
theorem rs_le {t T S : Nat} (ht : t < 1000000) (hT : T < 1000000) (hS : S < 1000000) : nI t ≤ nI T - nI S ↔ t + S ≤ T := by
  rw [Int32.le_iff_toInt_le, pk_sub_toInt (by omega) (by omega), nI_toInt (by omega)]
  omega

def fPlant (v : Nat → Int32) (T S : Nat) (x : Int32) : Int32 :=
  if decide (nI 0 ≤ x ∧ x ≤ nI 4) = true then if x = 0 then v 1 else if x = nI 1 then v 2 else if x = nI 2 then v 3 else if x = nI 3 then rsum v T S T (nI 0) else v 8 else -20001
