theorem fAck_lo {v : Nat → Int32} {x : Int32} {j : Nat} (h : j < 9) : (fAck v x).2 j = v j := by
  unfold fAck
  split
  · split
    · rfl
    · dsimp only
      rw [sHap_o (by omega), pk_un (by omega), pk_un (by omega), pk_un (by omega)]
  · rfl
theorem fAck_9 {v : Nat → Int32} {x : Int32} {N : Nat} (hN : v 9 = nI N) (hb : N < 2147483000) : ∃ N', N ≤ N' ∧ N' ≤ N + 1 ∧ (fAck v x).2 9 = nI N' := by
  unfold fAck
  split
  · split
    · exact ⟨N, Nat.le_refl _, by omega, hN⟩
    · refine ⟨N + 1, by omega, by omega, ?_⟩
      dsimp only
      exact sHap_9 (by rw [pk_un (by omega), pk_un (by omega), pk_un (by omega), hN]) hb
  · exact ⟨N, Nat.le_refl _, by omega, hN⟩
def aaF (v o : Nat → Int32) : Nat → (Nat → Int32) × Nat
  | 0 => (v, 0)
  | j + 1 => if (aaF v o j).1 (176 + 56 * (o j).toNatClampNeg + 10) = 0 then ((fAck (aaF v o j).1 (o j)).2, (aaF v o j).2 + 1) else aaF v o j
theorem aaF_lo {v o : Nat → Int32} {j : Nat} (h : j < 9) : ∀ i, (aaF v o i).1 j = v j := by
  intro i
  induction i with
  | zero => rfl
  | succ i ih =>
    rw [aaF]
    split
    · exact (fAck_lo h).trans ih
    · exact ih
theorem aaF_9 {v o : Nat → Int32} {N : Nat} (hN : v 9 = nI N) (hb : N + 100 < 2147483000) : ∀ i, i ≤ 16 → ∃ N', N ≤ N' ∧ N' ≤ N + i ∧ (aaF v o i).1 9 = nI N' := by
  intro i
  induction i with
  | zero => intro _; exact ⟨N, Nat.le_refl _, by omega, hN⟩
  | succ i ih =>
    intro hi
    obtain ⟨N1, h1, h2, h3⟩ := ih (by omega)
    rw [aaF]
    split
    · obtain ⟨N2, h4, h5, h6⟩ := fAck_9 (x := o i) h3 (by omega)
      exact ⟨N2, by omega, by omega, h6⟩
    · exact ⟨N1, h1, by omega, h3⟩
