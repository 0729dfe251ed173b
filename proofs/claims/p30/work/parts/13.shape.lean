/-! ===== the reference's own cells ===== -/
def sMd (kd : jx_K) (R : jx_R) (m : Nat) : Prop := kd m = (6, 0) ∧ kd (m + 1) = (7, 1080) ∧ kd (m + 2) = (7, 1080) ∧ kd (m + 3) = (7, 4320) ∧ kd (m + 4) = (7, 16) ∧ kd (m + 5) = (7, 80) ∧ kd (m + 6) = (7, 63) ∧ R m 0 = some (m + 1) ∧ R m 1 = some (m + 2) ∧ R m 2 = some (m + 3) ∧ R m 4 = some (m + 4) ∧ R m 6 = some (m + 5) ∧ R m 10 = some (m + 6)
def mI (I0 : jx_I) (m : Nat) (F v a p o t c : Nat → Int32) : jx_I := fun b => if b = m then F else if b = m + 1 then v else if b = m + 2 then a else if b = m + 3 then p else if b = m + 4 then o else if b = m + 5 then t else if b = m + 6 then c else I0 b
theorem mI_0 {I0 : jx_I} {m : Nat} {F v a p o t c : Nat → Int32} : mI I0 m F v a p o t c m = F := by simp [mI]
theorem mW_0 {I0 : jx_I} {m : Nat} {F v a p o t c : Nat → Int32} {j : Nat} {x : Int32} : jx_up (mI I0 m F v a p o t c) m j x = mI I0 m (upd F j x) v a p o t c := by
  funext b
  by_cases hb : b = m
  · subst hb
    simp [jx_up, mI]
  · simp [jx_up, mI, hb]
theorem mI_1 {I0 : jx_I} {m : Nat} {F v a p o t c : Nat → Int32} : mI I0 m F v a p o t c (m + 1) = v := by simp [mI]
theorem mW_1 {I0 : jx_I} {m : Nat} {F v a p o t c : Nat → Int32} {j : Nat} {x : Int32} : jx_up (mI I0 m F v a p o t c) (m + 1) j x = mI I0 m F (upd v j x) a p o t c := by
  funext b
  by_cases hb : b = (m + 1)
  · subst hb
    simp [jx_up, mI]
  · simp [jx_up, mI, hb]
theorem mI_2 {I0 : jx_I} {m : Nat} {F v a p o t c : Nat → Int32} : mI I0 m F v a p o t c (m + 2) = a := by simp [mI]
theorem mW_2 {I0 : jx_I} {m : Nat} {F v a p o t c : Nat → Int32} {j : Nat} {x : Int32} : jx_up (mI I0 m F v a p o t c) (m + 2) j x = mI I0 m F v (upd a j x) p o t c := by
  funext b
  by_cases hb : b = (m + 2)
  · subst hb
    simp [jx_up, mI]
  · simp [jx_up, mI, hb]
theorem mI_3 {I0 : jx_I} {m : Nat} {F v a p o t c : Nat → Int32} : mI I0 m F v a p o t c (m + 3) = p := by simp [mI]
theorem mW_3 {I0 : jx_I} {m : Nat} {F v a p o t c : Nat → Int32} {j : Nat} {x : Int32} : jx_up (mI I0 m F v a p o t c) (m + 3) j x = mI I0 m F v a (upd p j x) o t c := by
  funext b
  by_cases hb : b = (m + 3)
  · subst hb
    simp [jx_up, mI]
  · simp [jx_up, mI, hb]
theorem mI_4 {I0 : jx_I} {m : Nat} {F v a p o t c : Nat → Int32} : mI I0 m F v a p o t c (m + 4) = o := by simp [mI]
theorem mW_4 {I0 : jx_I} {m : Nat} {F v a p o t c : Nat → Int32} {j : Nat} {x : Int32} : jx_up (mI I0 m F v a p o t c) (m + 4) j x = mI I0 m F v a p (upd o j x) t c := by
  funext b
  by_cases hb : b = (m + 4)
  · subst hb
    simp [jx_up, mI]
  · simp [jx_up, mI, hb]
theorem mI_5 {I0 : jx_I} {m : Nat} {F v a p o t c : Nat → Int32} : mI I0 m F v a p o t c (m + 5) = t := by simp [mI]
theorem mW_5 {I0 : jx_I} {m : Nat} {F v a p o t c : Nat → Int32} {j : Nat} {x : Int32} : jx_up (mI I0 m F v a p o t c) (m + 5) j x = mI I0 m F v a p o (upd t j x) c := by
  funext b
  by_cases hb : b = (m + 5)
  · subst hb
    simp [jx_up, mI]
  · simp [jx_up, mI, hb]
theorem mI_6 {I0 : jx_I} {m : Nat} {F v a p o t c : Nat → Int32} : mI I0 m F v a p o t c (m + 6) = c := by simp [mI]
theorem mW_6 {I0 : jx_I} {m : Nat} {F v a p o t c : Nat → Int32} {j : Nat} {x : Int32} : jx_up (mI I0 m F v a p o t c) (m + 6) j x = mI I0 m F v a p o t (upd c j x) := by
  funext b
  by_cases hb : b = (m + 6)
  · subst hb
    simp [jx_up, mI]
  · simp [jx_up, mI, hb]
theorem mI_ne {I0 : jx_I} {m : Nat} {F v a p o t c : Nat → Int32} {b : Nat} (h : b < m ∨ m + 6 < b) : mI I0 m F v a p o t c b = I0 b := by
  unfold mI
  rw [if_neg (by omega), if_neg (by omega), if_neg (by omega), if_neg (by omega), if_neg (by omega), if_neg (by omega), if_neg (by omega)]
theorem mI_eta (I : jx_I) (m : Nat) : mI I m (I m) (I (m + 1)) (I (m + 2)) (I (m + 3)) (I (m + 4)) (I (m + 5)) (I (m + 6)) = I := by
  funext b
  unfold mI
  repeat' split
  all_goals (first | rfl | (subst_vars; rfl))
