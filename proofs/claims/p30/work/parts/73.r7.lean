/-! ===== p30: why a point is hidden, and the counts ===== -/
theorem why_0 {v : Nat → Int32} {i : Nat} (h9 : v (176 + 56 * i + 9) = nI 0) (h10 : v (176 + 56 * i + 10) = nI 1) : sStand v i = false ∧ sWhy v i = -20009 := by
  have e : sStand v i = false := by
    unfold sStand
    rw [h9, h10]
    decide
  refine ⟨e, ?_⟩
  unfold sWhy
  rw [if_neg (by rw [e]; decide)]
/-- what is known of a reason -/
def WF (v : Nat → Int32) (i w : Nat) : Prop := sWhy v i = nI w ∧ (w = 1 → ¬ v (176 + 56 * i + 13) ≤ 0) ∧ (w ≠ 1 → v (176 + 56 * i + 13) ≤ 0) ∧ (2 ≤ w → ¬ v (176 + 56 * i + 5) = nI 1) ∧ (w = 2 → (v (176 + 56 * i + 6) >>> (v 2 &&& 31)) &&& nI 1 = nI 1) ∧ (w = 3 → ¬ v (176 + 56 * i + 8) < 0) ∧ (w = 4 → v 3 = nI 1 ∧ ¬ v (176 + 56 * i + 5) ≤ nI 2)
theorem why_n {v : Nat → Int32} {i : Nat} (h : sStand v i = true) : WF v i 0 ∨ WF v i 1 ∨ WF v i 2 ∨ WF v i 3 ∨ WF v i 4 := by
  unfold WF
  unfold sWhy
  rw [if_pos h]
  by_cases c1 : v (176 + 56 * i + 13) ≤ 0
  · rw [if_pos c1]
    by_cases c2 : v (176 + 56 * i + 5) = nI 1
    · rw [if_pos c2]
      exact Or.inl ⟨rfl, fun z => by omega, fun _ => c1, fun z => by omega, fun z => by omega, fun z => by omega, fun z => by omega⟩
    · rw [if_neg c2]
      by_cases c3 : (v (176 + 56 * i + 6) >>> (v 2 &&& 31)) &&& nI 1 = nI 1
      · rw [if_pos c3]
        exact Or.inr (Or.inr (Or.inl ⟨rfl, fun z => by omega, fun _ => c1, fun _ => c2, fun _ => c3, fun z => by omega, fun z => by omega⟩))
      · rw [if_neg c3]
        by_cases c4 : anyUp v 16 (v (176 + 56 * i + 8)) false = true
        · rw [if_pos c4]
          refine Or.inr (Or.inr (Or.inr (Or.inl ⟨rfl, fun z => by omega, fun _ => c1, fun _ => c2, fun z => by omega, fun _ z => ?_, fun z => by omega⟩)))
          rw [anyUp_n _ _ _ _ z] at c4
          exact absurd c4 (by decide)
        · rw [if_neg c4]
          by_cases c5 : v 3 = nI 1
          · rw [if_pos c5]
            by_cases c6 : v (176 + 56 * i + 12) < v 4
            · rw [if_pos c6]
              exact Or.inl ⟨rfl, fun z => by omega, fun _ => c1, fun z => by omega, fun z => by omega, fun z => by omega, fun z => by omega⟩
            · rw [if_neg c6]
              by_cases c7 : v (176 + 56 * i + 5) ≤ nI 2
              · rw [if_pos c7]
                exact Or.inl ⟨rfl, fun z => by omega, fun _ => c1, fun z => by omega, fun z => by omega, fun z => by omega, fun z => by omega⟩
              · rw [if_neg c7]
                exact Or.inr (Or.inr (Or.inr (Or.inr ⟨rfl, fun z => by omega, fun _ => c1, fun _ => c2, fun z => by omega, fun z => by omega, fun _ => ⟨c5, c7⟩⟩)))
          · rw [if_neg c5]
            exact Or.inl ⟨rfl, fun z => by omega, fun _ => c1, fun z => by omega, fun z => by omega, fun z => by omega, fun z => by omega⟩
  · rw [if_neg c1]
    exact Or.inr (Or.inl ⟨rfl, fun _ => c1, fun z => absurd rfl z, fun z => by omega, fun z => by omega, fun z => by omega, fun z => by omega⟩)
theorem cC0 {v : Nat → Int32} {i : Nat} : cCount v i 0 = sStand v i := by unfold cCount; rw [if_pos (by omega), if_pos rfl]
theorem cC6 {v : Nat → Int32} {i : Nat} : cCount v i 6 = decide (¬ v (176 + 56 * i + 13) ≤ 0) := by unfold cCount; rw [if_neg (by omega), if_pos rfl]
theorem cC7 {v : Nat → Int32} {i : Nat} : cCount v i 7 = decide (v (176 + 56 * i + 10) = 0) := by unfold cCount; rw [if_neg (by omega), if_neg (by omega)]
theorem cCw {v : Nat → Int32} {i w : Nat} (hw : w < 5) : cCount v i (w + 1) = decide (sWhy v i = nI w) := by unfold cCount; rw [if_pos (by omega), if_neg (by omega), Nat.add_sub_cancel]
theorem cnt_t {v : Nat → Int32} {i w : Nat} (h : cCount v i w = true) : cntF v w (i + 1) = cntF v w i + nI 1 := by rw [cntF, if_pos h]
theorem cnt_f {v : Nat → Int32} {i w : Nat} (h : cCount v i w = false) : cntF v w (i + 1) = cntF v w i + nI 0 := by rw [cntF, if_neg (by rw [h]; decide)]
theorem why_up {v : Nat → Int32} {I : jx_I} {a i w0 : Nat} (h0 : w0 < 5) (hs : sWhy v i = nI w0) (hA : ∀ w, w < 5 → I a w = cntF v (w + 1) i) : ∀ w, w < 5 → jx_up I a w0 (cntF v (w0 + 1) i + nI 1) a w = cntF v (w + 1) (i + 1) := by
  intro w hw
  by_cases c : w = w0
  · subst c
    rw [cnt_t (by rw [cCw hw]; exact decide_eq_true hs)]
    unfold jx_up
    rw [if_pos rfl, pk_us]
  · rw [cnt_f (by rw [cCw hw]; exact decide_eq_false (fun z => c ((nI_eq (by omega) (by omega)).mp (z.symm.trans hs))))]
    unfold jx_up
    rw [if_pos rfl, pk_un c, hA w hw]
    exact (Int32.add_zero _).symm
theorem why_up0 {v : Nat → Int32} {I : jx_I} {a i : Nat} (hs : sWhy v i = -20009) (hA : ∀ w, w < 5 → I a w = cntF v (w + 1) i) : ∀ w, w < 5 → jx_up I a 0 (cntF v 1 i + nI 0) a w = cntF v (w + 1) (i + 1) := by
  intro w hw
  have hn : ¬ sWhy v i = nI w := fun z => by
    rw [hs] at z
    exact nI_pos (show w < 2 ^ 31 from by omega) (z ▸ (by decide : (-20009 : Int32) < 0))
  rw [cnt_f (by rw [cCw hw]; exact decide_eq_false hn)]
  unfold jx_up
  rw [if_pos rfl]
  by_cases c : w = 0
  · subst c; rw [pk_us]
  · rw [pk_un c, hA w hw]
    exact (Int32.add_zero _).symm
theorem DK.upA {kd : jx_K} {R : jx_R} {I : jx_I} {d : Nat} {v p : Nat → Int32} {q B a j : Nat} {x : Int32} (h : DK kd R I d v p q B) (ha : d + 344 ≤ a) : DK kd R (jx_up I a j x) d v p q B :=
  h.grow (fun _ _ => rfl) (fun _ _ => rfl) (fun z hz => by unfold jx_up; rw [if_neg (by omega)])
abbrev rmA : Room := { frames := 7, cells := 1, slots := 5, locals := 32 * 7 }
theorem jx_CtA.ofJ {E : jx_E} {l : Launch} {y : MethodName} {cd : ByteArray} {nL : Nat} {ret : Option FieldType} {d mc ms n : Nat} {kd : jx_K} {R : jx_R} {I : jx_I} {as : List Value} {Q : jx_Q} (own : String) (lv : List (Option Value)) (hy : plainName y.cls = true) (ho : y.cls = own) (hi : (y.name == "<init>") = false) (hn : (lg_sl as).length ≤ nL) (hlv : jx_args as ++ List.replicate (nL - (lg_sl as).length) none = lv)
    (k : jx_J E l cd nL ret own false { frames := d, cells := mc, slots := ms, locals := 32 * d } mc ms Q 0 0 n kd R I 0 lv []) : jx_Ct E l y cd nL ret d mc ms n kd R I as Q := by
  subst ho
  exact jx_Ct.ofJ false lv hy hi hn hlv k
