/-! ===== p30: the list's order ===== -/
theorem i32_z {x : Int32} : x = 0 ↔ x.toInt = 0 := ⟨fun h => by rw [h]; rfl, fun h => Int32.toInt_inj.mp (h.trans rfl)⟩
theorem okS_2 {x : Int32} : okS (nI 2) x = decide (nI 0 ≤ x ∧ x ≤ nI 1000) := by
  unfold okS
  rw [if_neg (by decide), if_neg (by decide), if_pos rfl]
theorem okS_3 {x : Int32} : okS (nI 3) x = decide (nI 0 ≤ x ∧ x ≤ nI 20) := by
  unfold okS
  rw [if_neg (by decide), if_neg (by decide), if_neg (by decide), if_pos rfl]
theorem okS_4 {x : Int32} : okS (nI 4) x = decide (nI 0 ≤ x ∧ x ≤ nI 20) := by
  unfold okS
  rw [if_neg (by decide), if_neg (by decide), if_neg (by decide), if_neg (by decide), if_pos rfl]
theorem okS_5 {x : Int32} : okS (nI 5) x = decide (nI 1 ≤ x ∧ x ≤ nI 4) := by
  unfold okS
  rw [if_neg (by decide), if_neg (by decide), if_neg (by decide), if_neg (by decide), if_neg (by decide), if_pos rfl]
theorem okS_6 {x : Int32} : okS (nI 6) x = decide (nI 0 ≤ x ∧ x ≤ nI 15) := by
  unfold okS
  rw [if_neg (by decide), if_neg (by decide), if_neg (by decide), if_neg (by decide), if_neg (by decide), if_neg (by decide), if_pos rfl]
theorem VI.don {v : Nat → Int32} {k T S N i : Nat} (h : VI v k T S N) (hi : i < k) : ∃ a, a ≤ 20 ∧ v (176 + 56 * i + 3) = nI a := by
  have h1 := h.st hi (show 3 < 7 from by omega)
  rw [okS_3] at h1
  obtain ⟨j, _, h2, h3⟩ := in_nat h1 (by omega) (by omega)
  exact ⟨j, h2, h3⟩
theorem VI.dof {v : Nat → Int32} {k T S N i : Nat} (h : VI v k T S N) (hi : i < k) : ∃ a, a ≤ 20 ∧ v (176 + 56 * i + 4) = nI a := by
  have h1 := h.st hi (show 4 < 7 from by omega)
  rw [okS_4] at h1
  obtain ⟨j, _, h2, h3⟩ := in_nat h1 (by omega) (by omega)
  exact ⟨j, h2, h3⟩
theorem VI.pr {v : Nat → Int32} {k T S N i : Nat} (h : VI v k T S N) (hi : i < k) : ∃ a, 1 ≤ a ∧ a ≤ 4 ∧ v (176 + 56 * i + 5) = nI a := by
  have h1 := h.st hi (show 5 < 7 from by omega)
  rw [okS_5] at h1
  obtain ⟨j, h0, h2, h3⟩ := in_nat h1 (by omega) (by omega)
  exact ⟨j, h0, h2, h3⟩
theorem VI.an {v : Nat → Int32} {k T S N i : Nat} (h : VI v k T S N) (hi : i < k) : ∃ a, a ≤ 1 ∧ v (176 + 56 * i + 10) = nI a := by
  obtain ⟨b, hb⟩ := h.ak hi
  cases b with
  | true => exact ⟨1, by omega, hb⟩
  | false => exact ⟨0, by omega, hb⟩
theorem sA3_int {v : Nat → Int32} {i j p1 p2 a1 a2 l1 l2 : Nat} (e1 : v (176 + 56 * i + 5) = nI p1) (e2 : v (176 + 56 * j + 5) = nI p2) (e3 : v (176 + 56 * i + 10) = nI a1) (e4 : v (176 + 56 * j + 10) = nI a2) (e5 : v (176 + 56 * i + 12) = nI l1) (e6 : v (176 + 56 * j + 12) = nI l2) (b1 : p1 ≤ 4) (b2 : p2 ≤ 4) (b3 : a1 ≤ 1) (b4 : a2 ≤ 1) (b5 : l1 ≤ 10000) (b6 : l2 ≤ 10000) :
    (p1 ≠ p2 ∧ (sA3 v i j).toInt = (p1 : Int) - p2) ∨ (p1 = p2 ∧ a1 ≠ a2 ∧ (sA3 v i j).toInt = (a1 : Int) - a2) ∨ (p1 = p2 ∧ a1 = a2 ∧ (sA3 v i j).toInt = (l1 : Int) - l2) := by
  have t1 := pk_sub_toInt (a := p1) (b := p2) (by omega) (by omega)
  have t2 := pk_sub_toInt (a := a1) (b := a2) (by omega) (by omega)
  have t3 := pk_sub_toInt (a := l1) (b := l2) (by omega) (by omega)
  unfold sA3 sA2 sA1
  rw [e1, e2, e3, e4, e5, e6]
  by_cases h1 : p1 = p2
  · have z1 : nI p1 - nI p2 = 0 := i32_z.mpr (by omega)
    by_cases h2 : a1 = a2
    · have z2 : nI a1 - nI a2 = 0 := i32_z.mpr (by omega)
      refine Or.inr (Or.inr ⟨h1, h2, ?_⟩)
      rw [if_pos z1, if_pos z2]
      exact t3
    · have z2 : ¬ nI a1 - nI a2 = 0 := fun z => by have := i32_z.mp z; omega
      refine Or.inr (Or.inl ⟨h1, h2, ?_⟩)
      rw [if_pos z1, if_neg z2]
      exact t2
  · have z1 : ¬ nI p1 - nI p2 = 0 := fun z => by have := i32_z.mp z; omega
    refine Or.inl ⟨h1, ?_⟩
    rw [if_neg z1, if_neg z1]
    exact t1
theorem ah_iff {v : Nat → Int32} {i j : Nat} : sAhead v i j = true ↔ ((sA3 v i j).toInt < 0 ∨ ((sA3 v i j).toInt = 0 ∧ i < j)) := by
  unfold sAhead
  by_cases h : sA3 v i j = 0
  · have h1 := i32_z.mp h
    rw [if_pos h, decide_eq_true_eq]
    omega
  · have h1 : ¬ (sA3 v i j).toInt = 0 := fun z => h (i32_z.mpr z)
    rw [if_neg h, decide_eq_true_eq, Int32.lt_iff_toInt_lt]
    have : (0 : Int32).toInt = 0 := rfl
    omega
theorem ah_tot {v : Nat → Int32} {k T S N i j : Nat} (hV : VI v k T S N) (hi : i < k) (hj : j < k) (hij : i ≠ j) (h : sAhead v i j = false) : sAhead v j i = true := by
  obtain ⟨p1, _, b1, e1⟩ := hV.pr hi
  obtain ⟨p2, _, b2, e2⟩ := hV.pr hj
  obtain ⟨a1, b3, e3⟩ := hV.an hi
  obtain ⟨a2, b4, e4⟩ := hV.an hj
  obtain ⟨l1, b5, e5⟩ := hV.la hi
  obtain ⟨l2, b6, e6⟩ := hV.la hj
  have hT := hV.tl
  have h1 := sA3_int e1 e2 e3 e4 e5 e6 b1 b2 b3 b4 (by omega) (by omega)
  have h2 := sA3_int e2 e1 e4 e3 e6 e5 b2 b1 b4 b3 (by omega) (by omega)
  have h3 : ¬ sAhead v i j = true := by rw [h]; decide
  rw [ah_iff] at h3 ⊢
  omega
theorem insO_form {v : Nat → Int32} {i : Nat} : ∀ (w : Nat) (o : Nat → Int32), ∃ w0, w0 ≤ w ∧ (∀ j, insO v i w o j = if j < w0 then o j else if j = w0 then nI i else if j ≤ w then o (j - 1) else o j) ∧ (∀ j, w0 ≤ j → j < w → sAhead v i (o j).toNatClampNeg = true) ∧ (0 < w0 → sAhead v i (o (w0 - 1)).toNatClampNeg = false) := by
  intro w
  induction w with
  | zero =>
    intro o
    refine ⟨0, Nat.le_refl _, fun j => ?_, fun j _ h => by omega, fun h => by omega⟩
    rw [insO, if_neg (by omega)]
    by_cases hj : j = 0
    · subst hj; rw [if_pos rfl, pk_us]
    · rw [if_neg hj, if_neg (by omega), pk_un hj]
  | succ w ih =>
    intro o
    by_cases h : sAhead v i (o w).toNatClampNeg = true
    · obtain ⟨w0, h0, h1, h2, h3⟩ := ih (upd o (w + 1) (o w))
      refine ⟨w0, by omega, fun j => ?_, fun j ha hb => ?_, fun hp => ?_⟩
      · rw [insO, if_pos h, h1 j]
        by_cases c1 : j < w0
        · rw [if_pos c1, if_pos c1, pk_un (by omega)]
        · rw [if_neg c1, if_neg c1]
          by_cases c2 : j = w0
          · rw [if_pos c2, if_pos c2]
          · rw [if_neg c2, if_neg c2]
            by_cases c3 : j ≤ w
            · rw [if_pos c3, if_pos (by omega), pk_un (by omega)]
            · rw [if_neg c3]
              by_cases c4 : j = w + 1
              · subst c4; rw [if_pos (Nat.le_refl _), pk_us]; rfl
              · rw [if_neg (by omega), pk_un c4]
      · by_cases c : j = w
        · subst c; exact h
        · have := h2 j ha (by omega)
          rw [pk_un (by omega)] at this
          exact this
      · have := h3 hp
        rw [pk_un (by omega)] at this
        exact this
    · refine ⟨w + 1, Nat.le_refl _, fun j => ?_, fun j _ hb => by omega, fun _ => ?_⟩
      · rw [insO, if_neg h]
        by_cases c1 : j < w + 1
        · rw [if_pos c1, pk_un (by omega)]
        · rw [if_neg c1]
          by_cases c2 : j = w + 1
          · subst c2; rw [if_pos rfl, pk_us]
          · rw [if_neg c2, if_neg (by omega), pk_un c2]
      · rw [Nat.add_sub_cancel]
        exact Bool.eq_false_iff.mpr h
/-- a good list of L of the first i points -/
def LG (v o : Nat → Int32) (L i : Nat) : Prop := L ≤ i ∧ (∀ j, j < L → ∃ q, q < i ∧ o j = nI q ∧ sWhy v q = 0) ∧ (∀ a b, a < L → b < L → a ≠ b → o a ≠ o b) ∧ (∀ j, j + 1 < L → sAhead v (o j).toNatClampNeg (o (j + 1)).toNatClampNeg = true) ∧ cntF v 1 i = nI L
theorem lsF_good {v o0 : Nat → Int32} {k T S N : Nat} (hV : VI v k T S N) : ∀ i, i ≤ k → LG v (lsF v o0 i).1 (lsF v o0 i).2 i := by
  have h16 := hV.k16
  intro i
  induction i with
  | zero => intro _; exact ⟨Nat.le_refl _, fun j h => by rw [lsF] at h; omega, fun a b h => by rw [lsF] at h; omega, fun j h => by rw [lsF] at h; omega, rfl⟩
  | succ i ih =>
    intro hi
    obtain ⟨g0, g1, g2, g3, g4⟩ := ih (by omega)
    have hc : cCount v i 1 = decide (sWhy v i = nI 0) := by unfold cCount; rw [if_pos (by omega), if_neg (by omega)]
    by_cases hw : sWhy v i = 0
    · rw [lsF, if_pos hw]
      generalize lsF v o0 i = z at g0 g1 g2 g3 g4
      obtain ⟨o, L⟩ := z
      dsimp only at g0 g1 g2 g3 g4 ⊢
      obtain ⟨w0, h0, h1, h2, h3⟩ := insO_form (v := v) (i := i) L o
      have hmem : ∀ j, j < L + 1 → (j < w0 ∧ insO v i L o j = o j) ∨ (j = w0 ∧ insO v i L o j = nI i) ∨ (w0 < j ∧ insO v i L o j = o (j - 1)) := by
        intro j hj
        rw [h1 j]
        by_cases c1 : j < w0
        · exact Or.inl ⟨c1, if_pos c1⟩
        · rw [if_neg c1]
          by_cases c2 : j = w0
          · exact Or.inr (Or.inl ⟨c2, if_pos c2⟩)
          · rw [if_neg c2, if_pos (by omega)]
            exact Or.inr (Or.inr ⟨by omega, rfl⟩)
      have hne : ∀ a, a < L → o a ≠ nI i := by
        intro a ha e
        obtain ⟨q, hq, e1, _⟩ := g1 a ha
        rw [e1] at e
        have := (nI_eq (by omega) (by omega)).mp e
        omega
      refine ⟨by omega, fun j hj => ?_, fun a b ha hb hab => ?_, fun j hj => ?_, ?_⟩
      · rcases hmem j hj with ⟨c, e⟩ | ⟨c, e⟩ | ⟨c, e⟩
        · obtain ⟨q, hq, e1, e2⟩ := g1 j (by omega)
          exact ⟨q, by omega, e.trans e1, e2⟩
        · exact ⟨i, by omega, e, hw⟩
        · obtain ⟨q, hq, e1, e2⟩ := g1 (j - 1) (by omega)
          exact ⟨q, by omega, e.trans e1, e2⟩
      · rcases hmem a ha with ⟨c, e⟩ | ⟨c, e⟩ | ⟨c, e⟩ <;> rcases hmem b hb with ⟨c', e'⟩ | ⟨c', e'⟩ | ⟨c', e'⟩ <;> rw [e, e']
        · exact g2 a b (by omega) (by omega) hab
        · exact hne a (by omega)
        · exact g2 a (b - 1) (by omega) (by omega) (by omega)
        · exact (hne b (by omega)).symm
        · omega
        · exact (hne (b - 1) (by omega)).symm
        · exact g2 (a - 1) b (by omega) (by omega) (by omega)
        · exact hne (a - 1) (by omega)
        · exact g2 (a - 1) (b - 1) (by omega) (by omega) (by omega)
      · rcases hmem j (by omega) with ⟨c, e⟩ | ⟨c, e⟩ | ⟨c, e⟩ <;> rcases hmem (j + 1) (by omega) with ⟨c', e'⟩ | ⟨c', e'⟩ | ⟨c', e'⟩ <;> rw [e, e']
        · exact g3 j (by omega)
        · have h4 := h3 (by omega)
          rw [show w0 - 1 = j from by omega] at h4
          obtain ⟨q, hq, e1, _⟩ := g1 j (by omega)
          rw [e1, nI_clamp (show q < 2147483648 from by omega)] at h4 ⊢
          rw [nI_clamp (show i < 2147483648 from by omega)]
          exact ah_tot hV (by omega) (by omega) (by omega) h4
        · omega
        · omega
        · omega
        · rw [nI_clamp (show i < 2147483648 from by omega)]
          exact h2 (j + 1 - 1) (by omega) (by omega)
        · omega
        · omega
        · have := g3 (j - 1) (by omega)
          rw [show j - 1 + 1 = j + 1 - 1 from by omega] at this
          exact this
      · rw [cntF, hc, if_pos (decide_eq_true (show sWhy v i = nI 0 from hw)), g4, nI_add]
    · rw [lsF, if_neg hw]
      refine ⟨by omega, fun j hj => ?_, g2, g3, ?_⟩
      · obtain ⟨q, hq, e1, e2⟩ := g1 j hj
        exact ⟨q, by omega, e1, e2⟩
      · rw [cntF, hc, if_neg (fun z => hw (show sWhy v i = nI 0 from of_decide_eq_true z)), g4, nI_add]
        rfl
