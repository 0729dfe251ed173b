theorem cp_step {I : jx_I} {x y i : Nat} (hxy : x ≠ y) : jx_up (va_up I y (fun j => if j < i then I x j else I y j)) y i (I x i) = va_up I y (fun j => if j < i + 1 then I x j else I y j) := by
  funext b
  by_cases hb : b = y
  · subst hb
    simp only [jx_up, va_up, if_true]
    funext j
    unfold upd
    by_cases h1 : j = i
    · subst h1
      simp
    · by_cases h2 : j < i
      · simp [h1, h2, Nat.lt_succ_of_lt h2]
      · simp [h1, h2]
        intro h3
        omega
  · simp [jx_up, va_up, hb]
