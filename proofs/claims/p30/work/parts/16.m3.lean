theorem upd_upd {f : Nat → Int32} {k : Nat} {x y : Int32} : upd (upd f k x) k y = upd f k y := by
  funext j
  unfold upd
  by_cases h : j = k <;> simp [h]
def pS (p : Nat → Int32) (i : Nat) : Nat → Int32 := fun j => if j < i then p (j + 1080) else p j
theorem pS_ge {p : Nat → Int32} {i j : Nat} (h : i ≤ j) : pS p i j = p j := by unfold pS; rw [if_neg (by omega)]
theorem pS_step {p : Nat → Int32} {i : Nat} : upd (pS p i) i (p (i + 1080)) = pS p (i + 1) := by
  funext j
  unfold upd pS
  by_cases h : j = i
  · subst h; simp
  · by_cases h2 : j < i
    · rw [if_neg h, if_pos h2, if_pos (by omega)]
    · rw [if_neg h, if_neg h2, if_neg (by omega)]
theorem pS_0 {p : Nat → Int32} : pS p 0 = p := by funext j; simp [pS]
def pC (q : Nat → Int32) (c : Nat) (row : Nat → Int32) (i : Nat) : Nat → Int32 := fun j => if 1080 * c ≤ j ∧ j < 1080 * c + i then row (j - 1080 * c) else q j
theorem pC_step {q row : Nat → Int32} {c i : Nat} : upd (pC q c row i) (1080 * c + i) (row i) = pC q c row (i + 1) := by
  funext j
  unfold upd pC
  by_cases h : j = 1080 * c + i
  · subst h
    rw [if_pos rfl, if_pos (by omega)]
    congr 1
    omega
  · by_cases h2 : 1080 * c ≤ j ∧ j < 1080 * c + i
    · rw [if_neg h, if_pos h2, if_pos (by omega)]
    · rw [if_neg h, if_neg h2, if_neg (by omega)]
theorem pC_0 {q row : Nat → Int32} {c : Nat} : pC q c row 0 = q := by
  funext j
  unfold pC
  rw [if_neg (by omega)]
/-- the history's row behind one more state -/
def kpP (p : Nat → Int32) (c : Nat) (row : Nat → Int32) : Nat → Int32 := if c = 4 then pC (pS p 3240) 3 row 1080 else pC p c row 1080
def kpC (c : Nat) : Nat := if c = 4 then 4 else c + 1
theorem kpC_le {c : Nat} (h : c ≤ 4) : kpC c ≤ 4 := by unfold kpC; split <;> omega

def isE (x : Int32) : Bool := decide (x = -20001 ∨ x = -20002)
theorem isE_t {x : Int32} (h : x = -20001 ∨ x = -20002) : isE x = true := decide_eq_true h
theorem isE_n {x : Int32} (h1 : ¬ x = -20001) (h2 : ¬ x = -20002) : ¬ isE x = true := fun z => (of_decide_eq_true z).elim h1 h2
