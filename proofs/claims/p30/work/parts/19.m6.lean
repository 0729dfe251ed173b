def cpA (v a : Nat → Int32) : Nat → Int32 := fun j => if j < 1080 then v j else a j
theorem cpVA {I0 : jx_I} {m : Nat} {F v a p o t c : Nat → Int32} : va_up (mI I0 m F v a p o t c) (m + 2) (fun j => if j < 1080 then mI I0 m F v a p o t c (m + 1) j else mI I0 m F v a p o t c (m + 2) j) = mI I0 m F v (cpA v a) p o t c := by
  rw [mI_1, mI_2]
  funext b
  by_cases hb : b = m + 2
  · subst hb
    rw [va_up_self, mI_2]
    rfl
  · rw [va_up_ne _ _ hb]
    simp [mI, hb]
theorem cpAV {I0 : jx_I} {m : Nat} {F v a p o t c : Nat → Int32} : va_up (mI I0 m F v a p o t c) (m + 1) (fun j => if j < 1080 then mI I0 m F v a p o t c (m + 2) j else mI I0 m F v a p o t c (m + 1) j) = mI I0 m F (cpA a v) a p o t c := by
  rw [mI_1, mI_2]
  funext b
  by_cases hb : b = m + 1
  · subst hb
    rw [va_up_self, mI_1]
    rfl
  · rw [va_up_ne _ _ hb]
    simp [mI, hb]

def fUns (v : Nat → Int32) (x : Int32) : Int32 × (Nat → Int32) :=
  if okP v x = true then
    if v (176 + 56 * x.toNatClampNeg + 13) = 0 then (-20002, v)
    else (v (176 + 56 * x.toNatClampNeg + 13) - v 1, sHap (upd v (176 + 56 * x.toNatClampNeg + 13) (nI 0)) (nI 5) x)
  else (-20001, v)
def okF (x y z : Int32) : Bool := decide (nI 1 ≤ x ∧ x ≤ nI 60) && (decide (nI 1 ≤ y ∧ y ≤ nI 50) && decide (nI 0 ≤ z ∧ z ≤ y))
def okS (s x : Int32) : Bool :=
  if s = nI 0 then decide (nI 0 ≤ x ∧ x ≤ nI 1) else if s = nI 1 then okV x else if s = nI 2 then decide (nI 0 ≤ x ∧ x ≤ nI 1000) else if s = nI 3 then decide (nI 0 ≤ x ∧ x ≤ nI 20) else if s = nI 4 then decide (nI 0 ≤ x ∧ x ≤ nI 20) else if s = nI 5 then decide (nI 1 ≤ x ∧ x ≤ nI 4) else if s = nI 6 then decide (nI 0 ≤ x ∧ x ≤ nI 15) else false
/-- kept in the history if something was done -/
def isKept (r : Int32) : Bool := !(decide (r = -20001) || decide (r = -20002) || decide (r = -20003))

def fSet (v : Nat → Int32) (x s y : Int32) : Nat → Int32 :=
  if upd v (176 + 56 * x.toNatClampNeg + s.toNatClampNeg) y (176 + 56 * x.toNatClampNeg + 5) = nI 1 then
    if upd v (176 + 56 * x.toNatClampNeg + s.toNatClampNeg) y (176 + 56 * x.toNatClampNeg + 13) ≤ 0 then upd v (176 + 56 * x.toNatClampNeg + s.toNatClampNeg) y
    else sHap (upd (upd v (176 + 56 * x.toNatClampNeg + s.toNatClampNeg) y) (176 + 56 * x.toNatClampNeg + 13) (nI 0)) (nI 5) x
  else upd v (176 + 56 * x.toNatClampNeg + s.toNatClampNeg) y
theorem okS_nat {s x : Int32} (h : okS s x = true) : ∃ j, j < 7 ∧ s = nI j := by
  unfold okS at h
  by_cases t0 : s = nI 0
  · exact ⟨0, by omega, t0⟩
  by_cases t1 : s = nI 1
  · exact ⟨1, by omega, t1⟩
  by_cases t2 : s = nI 2
  · exact ⟨2, by omega, t2⟩
  by_cases t3 : s = nI 3
  · exact ⟨3, by omega, t3⟩
  by_cases t4 : s = nI 4
  · exact ⟨4, by omega, t4⟩
  by_cases t5 : s = nI 5
  · exact ⟨5, by omega, t5⟩
  by_cases t6 : s = nI 6
  · exact ⟨6, by omega, t6⟩
  rw [if_neg t0, if_neg t1, if_neg t2, if_neg t3, if_neg t4, if_neg t5, if_neg t6] at h
  cases h

/-- a new point's row -/
def zeroP (v : Nat → Int32) (k w : Nat) : Nat → Int32 := fun j => if 176 + 56 * k ≤ j ∧ j < 176 + 56 * k + w then 0 else v j
theorem zeroP_step {v : Nat → Int32} {k w : Nat} : upd (zeroP v k w) (176 + 56 * k + w) (nI 0) = zeroP v k (w + 1) := by
  funext j
  unfold upd zeroP
  by_cases h : j = 176 + 56 * k + w
  · rw [if_pos h, if_pos (by omega)]
    rfl
  · by_cases h2 : 176 + 56 * k ≤ j ∧ j < 176 + 56 * k + w
    · rw [if_neg h, if_pos h2, if_pos (by omega)]
    · rw [if_neg h, if_neg h2, if_neg (by omega)]
theorem zeroP_0 {v : Nat → Int32} {k : Nat} : zeroP v k 0 = v := by
  funext j
  unfold zeroP
  rw [if_neg (by omega)]
theorem zeroP_lo {v : Nat → Int32} {k w j : Nat} (h : j < 176) : zeroP v k w j = v j := by
  unfold zeroP
  rw [if_neg (by omega)]
def fAdd (v : Nat → Int32) (k : Nat) (x y : Int32) : Nat → Int32 := upd (upd (upd (upd (upd (zeroP v k 56) (176 + 56 * k + 1) x) (176 + 56 * k + 5) y) (176 + 56 * k + 8) (-1)) (176 + 56 * k + 10) (nI 1)) 0 (nI (k + 1))
