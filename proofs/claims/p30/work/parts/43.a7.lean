def nSt (cl ov : Bool) (of od : Nat) (t c : Nat) (on : Bool) : Nat × Nat × Bool :=
  if on = true then if (if cl = true then c + 1 else 0) ≤ of then (t, (if cl = true then c + 1 else 0), true) else (t, 0, false)
  else if (if ov = true then c + 1 else 0) ≤ od then (t, (if ov = true then c + 1 else 0), false) else (t + 1, 0, true)
theorem plS_n {v : Nat → Int32} {i of od t c : Nat} {dead x : Int32} {on : Bool} (hof : v (176 + 56 * i + 4) = nI of) (hod : v (176 + 56 * i + 3) = nI od) (h1 : of ≤ 20) (h2 : od ≤ 20) (hc : c ≤ 1000) : plS v i dead x (nI t, nI c, on) = (nI (nSt (sCl (v (176 + 56 * i + 0)) (v (176 + 56 * i + 1)) dead x) (sOv (v (176 + 56 * i + 0)) (v (176 + 56 * i + 1)) x) of od t c on).1, nI (nSt (sCl (v (176 + 56 * i + 0)) (v (176 + 56 * i + 1)) dead x) (sOv (v (176 + 56 * i + 0)) (v (176 + 56 * i + 1)) x) of od t c on).2.1, (nSt (sCl (v (176 + 56 * i + 0)) (v (176 + 56 * i + 1)) dead x) (sOv (v (176 + 56 * i + 0)) (v (176 + 56 * i + 1)) x) of od t c on).2.2) := by
  have k1 : ∀ b : Bool, (if b = true then nI c + nI 1 else nI 0) = nI (if b = true then c + 1 else 0) := fun b => by cases b <;> simp [nI_add]
  unfold plS nSt
  dsimp only
  rw [k1, k1, hof, hod]
  have k2 : ∀ (b : Bool) (o : Nat), o ≤ 20 → (nI (if b = true then c + 1 else 0) ≤ nI o ↔ (if b = true then c + 1 else 0) ≤ o) := fun b o ho => nI_leI (by split <;> omega) (by omega)
  by_cases hon : on = true
  · rw [if_pos hon, if_pos hon]
    by_cases h : (if sCl (v (176 + 56 * i + 0)) (v (176 + 56 * i + 1)) dead x = true then c + 1 else 0) ≤ of
    · rw [if_pos h, if_pos ((k2 _ _ h1).mpr h)]
    · rw [if_neg h, if_neg (fun z => h ((k2 _ _ h1).mp z)), nI_add]
      rfl
  · rw [if_neg hon, if_neg hon]
    by_cases h : (if sOv (v (176 + 56 * i + 0)) (v (176 + 56 * i + 1)) x = true then c + 1 else 0) ≤ od
    · rw [if_pos h, if_pos ((k2 _ _ h2).mpr h)]
    · rw [if_neg h, if_neg (fun z => h ((k2 _ _ h2).mp z)), nI_add]
/-- two runs, the second with the greater deadband -/
def smR (t c : Nat) (on : Bool) (t' c' : Nat) (on' : Bool) (j : Nat) : Prop := t' ≤ t ∧ t ≤ j ∧ c ≤ j ∧ c' ≤ j ∧ ((on = on' ∧ c' ≤ c ∧ (on = false → c = c')) ∨ (on = false ∧ on' = true))
theorem smR_s {cl cl' ov : Bool} {of od t c t' c' j : Nat} {on on' : Bool} (h : smR t c on t' c' on' j) (h1 : cl' = true → cl = true) (h2 : cl' = true → ov = false) : smR (nSt cl ov of od t c on).1 (nSt cl ov of od t c on).2.1 (nSt cl ov of od t c on).2.2 (nSt cl' ov of od t' c' on').1 (nSt cl' ov of od t' c' on').2.1 (nSt cl' ov of od t' c' on').2.2 (j + 1) := by
  obtain ⟨a1, a2, a3, a4, h⟩ := h
  unfold nSt smR
  cases on <;> cases on' <;> cases cl <;> cases cl' <;> cases ov <;> simp at h h1 h2 ⊢ <;> (repeat' split) <;> simp_all <;> omega
theorem sCl_m {k L x : Int32} {d d' : Nat} (hL : okV L = true) (hd : d ≤ d') (hd' : d' ≤ 1000) (h : sCl k L (nI d') x = true) : sCl k L (nI d) x = true ∧ sOv k L x = false := by
  have hL2 := of_decide_eq_true hL
  rw [sCl_e] at h ⊢
  unfold sOv
  have a1 : (nI d).toInt = d := nI_toInt (by omega)
  have a2 : (nI d').toInt = d' := nI_toInt (by omega)
  obtain ⟨l1, l2⟩ := hL2
  rw [Int32.le_iff_toInt_le] at l1 l2
  have e1 : (-10000 : Int32).toInt = -10000 := by decide
  have e2 : (nI 10000).toInt = 10000 := by decide
  rw [e1] at l1
  rw [e2] at l2
  have s1 : (L - nI d).toInt = L.toInt - d := by rw [Int32.toInt_sub, a1, Int.bmod_def]; split <;> omega
  have p1 : (L + nI d).toInt = L.toInt + d := by rw [Int32.toInt_add, a1, Int.bmod_def]; split <;> omega
  have s2 : (L - nI d').toInt = L.toInt - d' := by rw [Int32.toInt_sub, a2, Int.bmod_def]; split <;> omega
  have p2 : (L + nI d').toInt = L.toInt + d' := by rw [Int32.toInt_add, a2, Int.bmod_def]; split <;> omega
  by_cases hk : k = 0
  · rw [if_pos hk] at h ⊢
    rw [if_pos hk]
    have h := of_decide_eq_true h
    rw [Int32.lt_iff_toInt_lt] at h
    exact ⟨decide_eq_true (by rw [Int32.lt_iff_toInt_lt]; omega), decide_eq_false (by rw [Int32.le_iff_toInt_le]; omega)⟩
  · rw [if_neg hk] at h ⊢
    rw [if_neg hk]
    have h := of_decide_eq_true h
    rw [Int32.lt_iff_toInt_lt] at h
    exact ⟨decide_eq_true (by rw [Int32.lt_iff_toInt_lt]; omega), decide_eq_false (by rw [Int32.le_iff_toInt_le]; omega)⟩

