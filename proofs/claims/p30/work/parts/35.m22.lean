def fpS (h : Int64) (x : Int32) : Int64 := 31 * h + x.toInt64
def fpL (f : Nat → Int32) : Nat → Int64 → Int64
  | 0, h => h
  | i + 1, h => fpS (fpL f i h) (f i)
def fp2 (g : Nat → Nat → Int32) (w : Nat) : Nat → Int64 → Int64
  | 0, h => h
  | i + 1, h => fpL (g i) w (fp2 g w i h)
def pl5 (v : Nat → Int32) (T S j : Nat) : Int32 := if j = 0 then v 1 else if j = 1 then v 2 else if j = 2 then v 3 else if j = 3 then rsum v T S T (nI 0) else v 8
def tol (v : Nat → Int32) (i w : Nat) : Int32 := if w < 15 then v (176 + 56 * i + w) else sWhy v i
def fpr (v : Nat → Int32) (k T S N : Nat) : Int64 := fp2 (evOf v N) 3 (wA N) (fpS (fp2 (tol v) 16 k (fpS (fpL (pl5 v T S) 5 157) (v 0))) (v 9))
theorem fpL_s {f : Nat → Int32} {i : Nat} {h : Int64} {x : Int32} (e : f i = x) : 31 * fpL f i h + x.toInt64 = fpL f (i + 1) h := by rw [fpL, fpS, e]
