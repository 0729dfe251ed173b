def pf (i w : Nat) : Nat := 176 + 56 * i + w
/-- the number of events, and one more of them -/
def evN (v : Nat → Int32) : Nat := (v 9).toNatClampNeg
theorem evN_of {v : Nat → Int32} {N : Nat} (h : v 9 = nI N) (hb : N < 2147483000) : evN v = N := by rw [evN, h, nI_clamp (by omega)]
def sHapN (v : Nat → Int32) (N : Nat) (w p : Int32) : Nat → Int32 := upd (upd (upd (upd v (80 + 3 * (N % 30)) (v 1)) (80 + 3 * (N % 30) + 1) w) (80 + 3 * (N % 30) + 2) p) 9 (nI (N + 1))
def sHap (v : Nat → Int32) (w p : Int32) : Nat → Int32 := sHapN v (evN v) w p
theorem sHap_o {v : Nat → Int32} {w p : Int32} {j : Nat} (h : j ≠ 9 ∧ (j < 80 ∨ 170 ≤ j)) : sHap v w p j = v j := by
  unfold sHap sHapN
  have : evN v % 30 < 30 := Nat.mod_lt _ (by decide)
  rw [pk_un (by omega), pk_un (by omega), pk_un (by omega), pk_un (by omega)]
theorem sHap_9 {v : Nat → Int32} {N : Nat} {w p : Int32} (h : v 9 = nI N) (hb : N < 2147483000) : sHap v w p 9 = nI (N + 1) := by
  unfold sHap sHapN
  rw [evN_of h hb, pk_us]
def okP (v : Nat → Int32) (p : Int32) : Bool := decide (nI 0 ≤ p ∧ p ≤ v 0 - nI 1)
def okV (x : Int32) : Bool := decide ((-10000 : Int32) ≤ x ∧ x ≤ nI 10000)
theorem okP_nat {v : Nat → Int32} {p : Int32} {k : Nat} (hk : v 0 = nI k) (h16 : k ≤ 16) (h : okP v p = true) : ∃ i, i < k ∧ p = nI i := by
  obtain ⟨h1, h2⟩ := of_decide_eq_true h
  rw [hk] at h2
  rcases Nat.eq_zero_or_pos k with h0 | h0
  · subst h0
    exfalso
    simp only [Int32.le_iff_toInt_le] at h1 h2
    have e1 : (nI 0).toInt = 0 := rfl
    have e2 : (nI 0 - nI 1).toInt = -1 := rfl
    omega
  · rw [pk_sub (by omega)] at h2
    obtain ⟨j, hj, rfl⟩ := nI_of (fun z => Int32.not_lt.mpr h1 z)
    have := (nI_leI hj (by omega)).mp h2
    exact ⟨j, by omega, rfl⟩
theorem okP_of {v : Nat → Int32} {k i : Nat} (hk : v 0 = nI k) (h16 : k ≤ 16) (hi : i < k) : okP v (nI i) = true := by
  refine decide_eq_true ⟨nI_le (by omega) (by omega), ?_⟩
  rw [hk, pk_sub (by omega)]
  exact nI_le (by omega) (by omega)

def sOv (kind limit x : Int32) : Bool := if kind = 0 then decide (limit ≤ x) else decide (x ≤ limit)
def sCl (kind limit dead x : Int32) : Bool := if dead = 0 then !sOv kind limit x else if kind = 0 then decide (x < limit - dead) else decide (limit + dead < x)
