def unV (p v : Nat → Int32) (q i : Nat) : Nat → Int32 := fun j => if j < i then p (1080 * q + j) else v j
theorem unV_step {p v : Nat → Int32} {q i : Nat} : upd (unV p v q i) i (p (1080 * q + i)) = unV p v q (i + 1) := by
  funext j
  unfold upd unV
  by_cases h : j = i
  · subst h; simp
  · by_cases h2 : j < i
    · rw [if_neg h, if_pos h2, if_pos (by omega)]
    · rw [if_neg h, if_neg h2, if_neg (by omega)]
theorem unV_0 {p v : Nat → Int32} {q : Nat} : unV p v q 0 = v := by funext j; simp [unV]
def sg (t : Nat → Int32) (L A : Nat) : Int32 := if A < L then t A else -1
def tkB (t : Nat → Int32) (L A : Nat) (x : Int32) : Bool := decide (sg t L A = x)
def tkA (t : Nat → Int32) (L A : Nat) (x : Int32) : Nat := if tkB t L A x = true then A + 1 else A + 0
theorem tkA_le {t : Nat → Int32} {L A : Nat} {x : Int32} (h : A ≤ L) (hx : x ≠ -1) : tkA t L A x ≤ L := by
  unfold tkA
  split
  · rename_i hb
    have := of_decide_eq_true hb
    unfold sg at this
    split at this
    · omega
    · exact absurd this.symm hx
  · omega
/-- the signs xs, one behind another: all there, and where it stops -/
def sq (t : Nat → Int32) (L : Nat) : List Int32 → Nat → Bool × Nat
  | [], A => (true, A)
  | x :: xs, A => if tkB t L A x = true then sq t L xs (tkA t L A x) else (false, tkA t L A x)
theorem sq_le {t : Nat → Int32} {L : Nat} : ∀ (xs : List Int32) (A : Nat), A ≤ L → (∀ x ∈ xs, x ≠ -1) → (sq t L xs A).2 ≤ L := by
  intro xs
  induction xs with
  | nil => intro A h _; exact h
  | cons x xs ih =>
    intro A h hx
    rw [sq]
    have h1 := tkA_le (t := t) h (hx x List.mem_cons_self)
    split
    · exact ih _ h1 (fun y hy => hx y (List.mem_cons_of_mem _ hy))
    · exact h1
def isD (x : Int32) : Bool := decide (nI 48 ≤ x ∧ x ≤ nI 57)
/-- the digits from A on, z at most: how many there are then, the number, where it stops -/
def nmF (t : Nat → Int32) (L : Nat) : Nat → Nat → Int32 → Nat → Nat × Int32 × Nat
  | 0, d, x, A => (d, x, A)
  | z + 1, d, x, A => if isD (sg t L A) = true then nmF t L z (d + 1) (nI 10 * x + sg t L A - nI 48) (A + 1) else (d, x, A)
theorem isD_lt {t : Nat → Int32} {L A : Nat} (h : isD (sg t L A) = true) : A < L := by
  unfold sg at h
  split at h
  · assumption
  · exact absurd h (by decide)
theorem nmF_le {t : Nat → Int32} {L : Nat} : ∀ (z d : Nat) (x : Int32) (A : Nat), A ≤ L → A ≤ (nmF t L z d x A).2.2 ∧ (nmF t L z d x A).2.2 ≤ L ∧ d ≤ (nmF t L z d x A).1 := by
  intro z
  induction z with
  | zero => intro d x A h; exact ⟨Nat.le_refl _, h, Nat.le_refl _⟩
  | succ z ih =>
    intro d x A h
    rw [nmF]
    split
    · rename_i hd
      have := ih (d + 1) (nI 10 * x + sg t L A - nI 48) (A + 1) (isD_lt hd)
      exact ⟨by omega, this.2.1, by omega⟩
    · exact ⟨Nat.le_refl _, h, Nat.le_refl _⟩
def nmB (d : Nat) : Bool := decide (0 < d)

theorem nmF_d5 {t : Nat → Int32} {L : Nat} : ∀ (z d : Nat) (x : Int32) (A : Nat), (nmF t L z d x A).1 ≤ d + z := by
  intro z
  induction z with
  | zero => intro d x A; exact Nat.le_refl _
  | succ z ih =>
    intro d x A
    rw [nmF]
    split
    · have := ih (d + 1) (nI 10 * x + sg t L A - nI 48) (A + 1)
      omega
    · dsimp only; omega
