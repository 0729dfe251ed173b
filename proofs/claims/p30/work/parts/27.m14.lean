/-- one value more: how often in alarm, the count, in alarm or not -/
def plS (v : Nat → Int32) (i : Nat) (dead x : Int32) (s : Int32 × Int32 × Bool) : Int32 × Int32 × Bool :=
  if s.2.2 = true then
    if (if sCl (v (176 + 56 * i + 0)) (v (176 + 56 * i + 1)) dead x = true then s.2.1 + nI 1 else nI 0) ≤ v (176 + 56 * i + 4) then (s.1, (if sCl (v (176 + 56 * i + 0)) (v (176 + 56 * i + 1)) dead x = true then s.2.1 + nI 1 else nI 0), true)
    else (s.1 + nI 0, nI 0, false)
  else
    if (if sOv (v (176 + 56 * i + 0)) (v (176 + 56 * i + 1)) x = true then s.2.1 + nI 1 else nI 0) ≤ v (176 + 56 * i + 3) then (s.1, (if sOv (v (176 + 56 * i + 0)) (v (176 + 56 * i + 1)) x = true then s.2.1 + nI 1 else nI 0), false)
    else (s.1 + nI 1, nI 0, true)
/-- the values from the place b on, j of them -/
def plF (v : Nat → Int32) (i : Nat) (dead : Int32) (b : Nat) : Nat → Int32 × Int32 × Bool
  | 0 => (nI 0, nI 0, false)
  | j + 1 => plS v i dead (v (176 + 56 * i + (16 + (b + j) % 40))) (plF v i dead b j)
def plays (v : Nat → Int32) (i : Nat) (dead : Int32) (K : Nat) : Int32 := (plF v i dead (K - (if K < 40 then K else 40)) (if K < 40 then K else 40)).1
