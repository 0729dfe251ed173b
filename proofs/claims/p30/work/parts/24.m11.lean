def tk0 (v : Nat → Int32) (T : Nat) : Nat → Int32 := upd (upd v 1 (nI (T + 1))) (16 + (T + 1) % 64) (nI 0)
theorem tk0_o {v : Nat → Int32} {T j : Nat} (h1 : j ≠ 1) (h2 : j < 16 ∨ 80 ≤ j) : tk0 v T j = v j := by
  have hT : (T + 1) % 64 < 64 := Nat.mod_lt _ (by decide)
  unfold tk0
  rw [pk_un (by omega), pk_un (by omega)]
theorem tk0_1 {v : Nat → Int32} {T : Nat} : tk0 v T 1 = nI (T + 1) := by
  unfold tk0
  rw [pk_un (by omega), pk_us]
def lookA (v : Nat → Int32) (T : Nat) : Nat → (Nat → Int32)
  | 0 => v
  | i + 1 => sLook (lookA v T i) T i
theorem lookA_o {v : Nat → Int32} {T j : Nat} (h1 : j ≠ 8 ∧ j ≠ 9) (h2 : j < 16) : ∀ i, lookA v T i j = v j := by
  intro i
  induction i with
  | zero => rfl
  | succ i ih => rw [lookA, sLook_o h1 (Or.inl h2) (by omega), ih]
theorem lookA_f {v : Nat → Int32} {T a w : Nat} (hw : w < 56) (h : w ≠ 9 ∧ w ≠ 10 ∧ w ≠ 11 ∧ w ≠ 12 ∧ w ≠ 14) : ∀ i, lookA v T i (176 + 56 * a + w) = v (176 + 56 * a + w) := by
  intro i
  induction i with
  | zero => rfl
  | succ i ih => rw [lookA, sLook_o (by omega) (by omega) (by omega), ih]
theorem lookA_9 {v : Nat → Int32} {T N : Nat} (hN : v 9 = nI N) (hb : N + 20 < 2147483000) : ∀ i, i ≤ 16 → ∃ N', N ≤ N' ∧ N' ≤ N + i ∧ lookA v T i 9 = nI N' := by
  intro i
  induction i with
  | zero => intro _; exact ⟨N, Nat.le_refl _, by omega, hN⟩
  | succ i ih =>
    intro hi
    obtain ⟨N', h1, h2, h3⟩ := ih (by omega)
    obtain ⟨N2, h4, h5, h6⟩ := sLook_9 (T := T) (i := i) h3 (by omega)
    exact ⟨N2, by omega, by omega, by rw [lookA]; exact h6⟩
def shA (v : Nat → Int32) (T : Nat) : Nat → (Nat → Int32)
  | 0 => v
  | i + 1 => if shA v T i (176 + 56 * i + 13) ≤ 0 then shA v T i else if nI T < shA v T i (176 + 56 * i + 13) then shA v T i else sHap (upd (shA v T i) (176 + 56 * i + 13) (nI 0)) (nI 5) (nI i)
theorem shA_o {v : Nat → Int32} {T j : Nat} (h1 : j ≠ 9) (h2 : j < 80) : ∀ i, shA v T i j = v j := by
  intro i
  induction i with
  | zero => rfl
  | succ i ih =>
    rw [shA]
    split
    · exact ih
    · split
      · exact ih
      · rw [sHap_o (by omega), pk_un (by omega), ih]
theorem shA_f {v : Nat → Int32} {T a w : Nat} (hw : w < 56) (h : w ≠ 13) : ∀ i, shA v T i (176 + 56 * a + w) = v (176 + 56 * a + w) := by
  intro i
  induction i with
  | zero => rfl
  | succ i ih =>
    rw [shA]
    split
    · exact ih
    · split
      · exact ih
      · rw [sHap_o (by omega), pk_un (by omega), ih]
theorem shA_9 {v : Nat → Int32} {T N : Nat} (hN : v 9 = nI N) (hb : N + 20 < 2147483000) : ∀ i, i ≤ 16 → ∃ N', N ≤ N' ∧ N' ≤ N + i ∧ shA v T i 9 = nI N' := by
  intro i
  induction i with
  | zero => intro _; exact ⟨N, Nat.le_refl _, by omega, hN⟩
  | succ i ih =>
    intro hi
    obtain ⟨N', h1, h2, h3⟩ := ih (by omega)
    rw [shA]
    split
    · exact ⟨N', h1, by omega, h3⟩
    · split
      · exact ⟨N', h1, by omega, h3⟩
      · exact ⟨N' + 1, by omega, by omega, sHap_9 (by rw [pk_un (by omega), h3]) (by omega)⟩
def fld (v : Nat → Int32) (T S : Nat) : Nat → Int32 :=
  if v 3 = 0 then if rsum v T S T (nI 0) ≤ v 6 then v else sHap (upd (upd v 3 (nI 1)) 4 (nI T)) (nI 6) (-20009)
  else if v 3 = nI 1 then if v 7 < rsum v T S T (nI 0) then v else sHap (upd v 3 (nI 0)) (nI 7) (-20009)
  else v
theorem fld_o {v : Nat → Int32} {T S j : Nat} (h1 : j ≠ 3 ∧ j ≠ 4 ∧ j ≠ 9) (h2 : j < 80 ∨ 170 ≤ j) : fld v T S j = v j := by
  unfold fld
  split
  · split
    · rfl
    · rw [sHap_o (by omega), pk_un (by omega), pk_un (by omega)]
  · split
    · split
      · rfl
      · rw [sHap_o (by omega), pk_un (by omega)]
    · rfl
theorem fld_9 {v : Nat → Int32} {T S N : Nat} (hN : v 9 = nI N) (hb : N < 2147483000) : ∃ N', N ≤ N' ∧ N' ≤ N + 1 ∧ fld v T S 9 = nI N' := by
  unfold fld
  split
  · split
    · exact ⟨N, Nat.le_refl _, by omega, hN⟩
    · exact ⟨N + 1, by omega, by omega, sHap_9 (by rw [pk_un (by omega), pk_un (by omega), hN]) hb⟩
  · split
    · split
      · exact ⟨N, Nat.le_refl _, by omega, hN⟩
      · exact ⟨N + 1, by omega, by omega, sHap_9 (by rw [pk_un (by omega), hN]) hb⟩
    · exact ⟨N, Nat.le_refl _, by omega, hN⟩
def kpt (v : Nat → Int32) (i : Nat) : Nat := (v (176 + 56 * i + 15)).toNatClampNeg
def ptA (v : Nat → Int32) : Nat → (Nat → Int32)
  | 0 => v
  | i + 1 => upd (upd (ptA v i) (176 + 56 * i + (16 + kpt v i % 40)) (v (176 + 56 * i + 7))) (176 + 56 * i + 15) (nI (kpt v i + 1))
theorem ptA_o {v : Nat → Int32} {j : Nat} (h : j < 176) : ∀ i, ptA v i j = v j := by
  intro i
  induction i with
  | zero => rfl
  | succ i ih =>
    have : kpt v i % 40 < 40 := Nat.mod_lt _ (by decide)
    rw [ptA, pk_un (by omega), pk_un (by omega), ih]
theorem ptA_f {v : Nat → Int32} {a w : Nat} (hw : w < 15) : ∀ i, ptA v i (176 + 56 * a + w) = v (176 + 56 * a + w) := by
  intro i
  induction i with
  | zero => rfl
  | succ i ih =>
    have : kpt v i % 40 < 40 := Nat.mod_lt _ (by decide)
    rw [ptA, pk_un (by omega), pk_un (by omega), ih]
theorem ptA_n {v : Nat → Int32} {a w i : Nat} (hw : w < 56) (ha : i ≤ a) : ptA v i (176 + 56 * a + w) = v (176 + 56 * a + w) := by
  induction i with
  | zero => rfl
  | succ i ih =>
    have : kpt v i % 40 < 40 := Nat.mod_lt _ (by decide)
    rw [ptA, pk_un (by omega), pk_un (by omega), ih (by omega)]
def sTick (v : Nat → Int32) (k T S : Nat) : Nat → Int32 := ptA (fld (shA (lookA (tk0 v T) (T + 1) k) (T + 1) k) (T + 1) S) k
