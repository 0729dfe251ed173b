/-! ===== p30: a tick ===== -/
theorem sLook_lk {v : Nat → Int32} {T A i : Nat} (h : P1 v T A i) : ∃ c, c ≤ 21 ∧ lkC v i = nI c := by
  obtain ⟨⟨c, hc, e⟩, _⟩ := h
  unfold lkC
  split
  · exact ⟨c + 1, by omega, by rw [e, nI_add]⟩
  · exact ⟨0, by omega, rfl⟩
theorem sLook_P1 {v : Nat → Int32} {T A i : Nat} (h : P1 v T A i) (h1 : 1 ≤ T) (hd3 : ∃ a, a ≤ 20 ∧ v (176 + 56 * i + 3) = nI a) (hd4 : ∃ a, a ≤ 20 ∧ v (176 + 56 * i + 4) = nI a) : P1 (sLook v T i) T (A + 1) i := by
  obtain ⟨c, hc, ec⟩ := sLook_lk h
  obtain ⟨d3, hd3, e3⟩ := hd3
  obtain ⟨d4, hd4, e4⟩ := hd4
  obtain ⟨h0, a, l, ha, hl, e14, e12, hal, h9⟩ := h
  unfold sLook
  rw [ec, e3, e4]
  by_cases c1 : v (176 + 56 * i + 9) = 0
  · rw [if_pos c1]
    by_cases c2 : nI c ≤ nI d3
    · rw [if_pos c2]
      have := (nI_leI (show c < 2 ^ 31 from by omega) (show d3 < 2 ^ 31 from by omega)).mp c2
      refine ⟨⟨c, by omega, pk_us⟩, a, l, by omega, hl, ?_, ?_, hal, fun z => ?_⟩
      · rw [pk_un (by omega)]; exact e14
      · rw [pk_un (by omega)]; exact e12
      · rw [pk_un (by omega), pk_un (by omega)]; exact h9 z
    · rw [if_neg c2]
      refine ⟨⟨0, by omega, ?_⟩, a + 1, T, by omega, Nat.le_refl _, ?_, ?_, by omega, fun z => by omega⟩
      · simp (disch := omega) only [sHap_o, pk_un, pk_us]
      · simp (disch := omega) only [sHap_o, pk_un, pk_us, e14, nI_add]
      · simp (disch := omega) only [sHap_o, pk_un, pk_us]
  · rw [if_neg c1]
    have a0 : a ≠ 0 := fun z => c1 (h9 z).1
    by_cases c2 : nI c ≤ nI d4
    · rw [if_pos c2]
      have := (nI_leI (show c < 2 ^ 31 from by omega) (show d4 < 2 ^ 31 from by omega)).mp c2
      refine ⟨⟨c, by omega, pk_us⟩, a, l, by omega, hl, ?_, ?_, hal, fun z => absurd z a0⟩
      · rw [pk_un (by omega)]; exact e14
      · rw [pk_un (by omega)]; exact e12
    · rw [if_neg c2]
      refine ⟨⟨0, by omega, ?_⟩, a, l, by omega, hl, ?_, ?_, hal, fun z => absurd z a0⟩
      · simp (disch := omega) only [sHap_o, pk_un, pk_us]
      · simp (disch := omega) only [sHap_o, pk_un]; exact e14
      · simp (disch := omega) only [sHap_o, pk_un]; exact e12
theorem sLook_r {v : Nat → Int32} {T i j w : Nat} (hw : w < 56) (hj : j ≠ i) : sLook v T i (176 + 56 * j + w) = v (176 + 56 * j + w) := by
  exact sLook_o (by omega) (by omega) (by omega)
/-- the activations of one look -/
theorem sLook_8 {v : Nat → Int32} {T i : Nat} : ∃ D, D ≤ 1 ∧ sLook v T i 8 = v 8 + nI D ∧ sLook v T i (176 + 56 * i + 14) = v (176 + 56 * i + 14) + nI D := by
  unfold sLook
  split
  · split
    · refine ⟨0, by omega, ?_, ?_⟩
      · rw [pk_un (by omega)]; exact (Int32.add_zero _).symm
      · rw [pk_un (by omega)]; exact (Int32.add_zero _).symm
    · refine ⟨1, by omega, ?_, ?_⟩
      · rw [sHap_o (by omega)]
        have : ∀ z : Nat, 8 ≠ 16 + z := fun z => by omega
        simp (disch := first | omega | exact this _) only [pk_un, pk_us]
      · rw [sHap_o (by omega)]
        have : 176 + 56 * i + 14 ≠ 16 + T % 64 := by omega
        simp (disch := first | omega | exact this) only [pk_un, pk_us]
  · split
    · refine ⟨0, by omega, ?_, ?_⟩
      · rw [pk_un (by omega)]; exact (Int32.add_zero _).symm
      · rw [pk_un (by omega)]; exact (Int32.add_zero _).symm
    · refine ⟨0, by omega, ?_, ?_⟩
      · simp (disch := omega) only [sHap_o, pk_un]; exact (Int32.add_zero _).symm
      · simp (disch := omega) only [sHap_o, pk_un]; exact (Int32.add_zero _).symm
theorem lookA_P1 {v : Nat → Int32} {T A k : Nat} (h1 : 1 ≤ T) (hp : ∀ i, i < k → P1 v T A i) (hd3 : ∀ i, i < k → ∃ a, a ≤ 20 ∧ v (176 + 56 * i + 3) = nI a) (hd4 : ∀ i, i < k → ∃ a, a ≤ 20 ∧ v (176 + 56 * i + 4) = nI a) : ∀ i, i ≤ k → (∀ j, j < k → P1 (lookA v T i) T (if j < i then A + 1 else A) j) ∧ ∃ D, D ≤ i ∧ lookA v T i 8 = v 8 + nI D ∧ sm (lookA v T i) k = sm v k + nI D := by
  intro i
  induction i with
  | zero => intro _; exact ⟨fun j hj => by rw [if_neg (by omega)]; exact hp j hj, 0, Nat.le_refl _, (Int32.add_zero _).symm, (Int32.add_zero _).symm⟩
  | succ i ih =>
    intro hi
    obtain ⟨h2, D, hD, e8, es⟩ := ih (by omega)
    have hi2 := h2 i (by omega)
    rw [if_neg (by omega)] at hi2
    refine ⟨fun j hj => ?_, ?_⟩
    · rw [lookA]
      by_cases c : j = i
      · subst c
        rw [if_pos (by omega)]
        exact sLook_P1 hi2 h1 (by rw [lookA_f (by omega) (by omega)]; exact hd3 j hj) (by rw [lookA_f (by omega) (by omega)]; exact hd4 j hj)
      · have h3 := h2 j hj
        have ec : (if j < i + 1 then A + 1 else A) = (if j < i then A + 1 else A) := by split <;> split <;> omega
        rw [ec]
        exact h3.cg (fun w hw => sLook_r (by omega) c)
    · obtain ⟨D1, hD1, f8, f14⟩ := sLook_8 (v := lookA v T i) (T := T) (i := i)
      refine ⟨D + D1, by omega, ?_, ?_⟩
      · rw [lookA, f8, e8, Int32.add_assoc, nI_add]
      · rw [lookA, sm_one f14 k (by omega) (fun j _ hj => sLook_r (by omega) hj), es, Int32.add_assoc, nI_add]
theorem shA_13 {v : Nat → Int32} {T a : Nat} : ∀ i, a < i → shA v T i (176 + 56 * a + 13) = if v (176 + 56 * a + 13) ≤ 0 then v (176 + 56 * a + 13) else if nI T < v (176 + 56 * a + 13) then v (176 + 56 * a + 13) else nI 0 := by
  have hn : ∀ i, i ≤ a → shA v T i (176 + 56 * a + 13) = v (176 + 56 * a + 13) := by
    intro i
    induction i with
    | zero => intro _; rfl
    | succ i ih =>
      intro hi
      rw [shA]
      split
      · exact ih (by omega)
      · split
        · exact ih (by omega)
        · rw [sHap_o (by omega), pk_un (by omega)]; exact ih (by omega)
  intro i
  induction i with
  | zero => intro h; omega
  | succ i ih =>
    intro h
    rw [shA]
    by_cases c : i = a
    · subst c
      rw [hn i (Nat.le_refl _)]
      split
      · exact hn i (Nat.le_refl _)
      · split
        · exact hn i (Nat.le_refl _)
        · rw [sHap_o (by omega), pk_us]
    · have := ih (by omega)
      split
      · exact this
      · split
        · exact this
        · rw [sHap_o (by omega), pk_un (by omega)]; exact this
theorem sTick_w {v : Nat → Int32} {k T S a w : Nat} (hw : w < 15) (h13 : w ≠ 13) : sTick v k T S (176 + 56 * a + w) = lookA (tk0 v T) (T + 1) k (176 + 56 * a + w) := by
  unfold sTick
  rw [ptA_f hw, fld_o (by omega) (by omega), shA_f (by omega) h13]
theorem sTick_w13 {v : Nat → Int32} {k T S a : Nat} : sTick v k T S (176 + 56 * a + 13) = shA (lookA (tk0 v T) (T + 1) k) (T + 1) k (176 + 56 * a + 13) := by
  unfold sTick
  rw [ptA_f (by omega), fld_o (by omega) (by omega)]
theorem sTick_w8 {v : Nat → Int32} {k T S : Nat} : sTick v k T S 8 = lookA (tk0 v T) (T + 1) k 8 := by
  unfold sTick
  rw [ptA_o (by omega), fld_o (by omega) (by omega), shA_o (by omega) (by omega)]
theorem PI.tick {v : Nat → Int32} {k T S : Nat} (h : PI v k T) (hT : T ≤ 10000) (hd3 : ∀ i, i < k → ∃ a, a ≤ 20 ∧ v (176 + 56 * i + 3) = nI a) (hd4 : ∀ i, i < k → ∃ a, a ≤ 20 ∧ v (176 + 56 * i + 4) = nI a) : PI (sTick v k T S) k (T + 1) ∧ ∃ D, D ≤ k ∧ sTick v k T S 8 = v 8 + nI D := by
  have t0 : ∀ a w, w < 56 → tk0 v T (176 + 56 * a + w) = v (176 + 56 * a + w) := fun a w hw => tk0_o (by omega) (by omega)
  have t8 : tk0 v T 8 = v 8 := tk0_o (by omega) (by omega)
  obtain ⟨hp, D, hD, e8, es⟩ := lookA_P1 (v := tk0 v T) (T := T + 1) (A := T) (k := k) (by omega) (fun i hi => ((h.1 i hi).1.cg (fun w hw => t0 i w (by omega))).mono (by omega) (Nat.le_refl _)) (fun i hi => by rw [t0 i 3 (by omega)]; exact hd3 i hi) (fun i hi => by rw [t0 i 4 (by omega)]; exact hd4 i hi) k (Nat.le_refl _)
  rw [t8] at e8
  rw [sm_cg k (fun i _ => t0 i 14 (by omega))] at es
  refine ⟨⟨fun i hi => ⟨?_, ?_⟩, ?_⟩, D, hD, sTick_w8.trans e8⟩
  · have h1 := hp i hi
    rw [if_pos hi] at h1
    exact h1.cg (fun w hw => sTick_w (by omega) (by omega))
  · have h13 : sTick v k T S (176 + 56 * i + 13) = if v (176 + 56 * i + 13) ≤ 0 then v (176 + 56 * i + 13) else if nI (T + 1) < v (176 + 56 * i + 13) then v (176 + 56 * i + 13) else nI 0 := by
      rw [sTick_w13, shA_13 k hi, lookA_f (by omega) (by omega), t0 i 13 (by omega)]
    have h5 : sTick v k T S (176 + 56 * i + 5) = v (176 + 56 * i + 5) := by
      rw [sTick_w (by omega) (by omega), lookA_f (by omega) (by omega), t0 i 5 (by omega)]
    obtain ⟨g1, g2⟩ := (h.1 i hi).2
    unfold P2
    rw [h13, h5]
    rcases g2 with e | ⟨u, hu, hu2, e⟩
    · rw [e, if_pos (by decide)]
      exact ⟨fun _ => rfl, Or.inl rfl⟩
    · rw [e, if_neg (nI_nle (by omega) (by omega))]
      refine ⟨fun z => ?_, ?_⟩
      · have := g1 z
        rw [e] at this
        have := (nI_eq (show u < 2 ^ 31 from by omega) (show 0 < 2 ^ 31 from by omega)).mp this
        omega
      · by_cases c : nI (T + 1) < nI u
        · rw [if_pos c]
          have := (nI_ltI (show T + 1 < 2 ^ 31 from by omega) (show u < 2 ^ 31 from by omega)).mp c
          exact Or.inr ⟨u, this, hu2, rfl⟩
        · rw [if_neg c]; exact Or.inl rfl
  · rw [sTick_w8, e8, sm_cg k (fun i _ => sTick_w (by omega) (by omega)), es, h.2]
theorem PI.tks {v : Nat → Int32} {k T S : Nat} (h : PI v k T) (hd3 : ∀ i, i < k → ∃ a, a ≤ 20 ∧ v (176 + 56 * i + 3) = nI a) (hd4 : ∀ i, i < k → ∃ a, a ≤ 20 ∧ v (176 + 56 * i + 4) = nI a) : ∀ j, T + j ≤ 10001 → PI (tkF v k T S j) k (T + j) ∧ ∃ D, D ≤ k * j ∧ tkF v k T S j 8 = v 8 + nI D := by
  intro j
  induction j with
  | zero => intro _; exact ⟨h, 0, by omega, (Int32.add_zero _).symm⟩
  | succ j ih =>
    intro hj
    obtain ⟨h1, D, hD, e⟩ := ih (by omega)
    obtain ⟨h2, D1, hD1, e1⟩ := PI.tick (S := S) h1 (by omega) (fun i hi => by rw [tkF_f (by omega)]; exact hd3 i hi) (fun i hi => by rw [tkF_f (by omega)]; exact hd4 i hi)
    refine ⟨h2, D + D1, ?_, ?_⟩
    · rw [Nat.mul_succ]; omega
    · rw [tkF, e1, e, Int32.add_assoc, nI_add]
/-! ===== p30: all of the list acknowledged ===== -/
theorem aaF_f {v o : Nat → Int32} {a w : Nat} (hw : w < 56) : ∀ m, (∀ j, j < m → ∃ q, q < 16 ∧ o j = nI q) → (w ≠ 10 ∨ ∀ j, j < m → o j ≠ nI a) → (aaF v o m).1 (176 + 56 * a + w) = v (176 + 56 * a + w) := by
  intro m
  induction m with
  | zero => intro _ _; rfl
  | succ m ih =>
    intro h h2
    have h3 := ih (fun j hj => h j (by omega)) (h2.imp id (fun z j hj => z j (by omega)))
    obtain ⟨q, hq, e⟩ := h m (by omega)
    rw [aaF]
    split
    · dsimp only
      rw [e, fAck_f hq hw ?_]
      · exact h3
      · rcases h2 with z | z
        · exact Or.inr z
        · refine Or.inl (fun c => z m (by omega) (by rw [e, c]))
    · exact h3
/-- how many of the first m of the list are not acknowledged -/
def dF (v o : Nat → Int32) : Nat → Nat
  | 0 => 0
  | j + 1 => dF v o j + (if v (176 + 56 * (o j).toNatClampNeg + 10) = 0 then 1 else 0)
theorem aaF_2 {v o : Nat → Int32} {L : Nat} (h : ∀ j, j < L → ∃ q, q < 16 ∧ o j = nI q) (hd : ∀ a b, a < L → b < L → a ≠ b → o a ≠ o b) : ∀ m, m ≤ L → (aaF v o m).2 = dF v o m := by
  intro m
  induction m with
  | zero => intro _; rfl
  | succ m ih =>
    intro hm
    obtain ⟨q, hq, e⟩ := h m (by omega)
    have h10 : (aaF v o m).1 (176 + 56 * (o m).toNatClampNeg + 10) = v (176 + 56 * (o m).toNatClampNeg + 10) := by
      rw [e, nI_clamp (show q < 2147483648 from by omega)]
      exact aaF_f (by omega) m (fun j hj => h j (by omega)) (Or.inr (fun j hj z => hd j m (by omega) (by omega) (by omega) (z.trans e.symm)))
    rw [aaF, dF, h10]
    split
    · rw [ih (by omega)]
    · rw [ih (by omega)]; rfl
theorem dF_le {v o : Nat → Int32} : ∀ m, dF v o m ≤ m := by
  intro m
  induction m with
  | zero => exact Nat.le_refl _
  | succ m ih => rw [dF]; split <;> omega
theorem PI.aa {v o : Nat → Int32} {k T : Nat} (h : PI v k T) (h0 : v 0 = nI k) (h16 : k ≤ 16) : ∀ m, (∀ j, j < m → ∃ q, q < k ∧ o j = nI q) → PI (aaF v o m).1 k T := by
  intro m
  induction m with
  | zero => intro _; exact h
  | succ m ih =>
    intro hm
    have h1 := ih (fun j hj => hm j (by omega))
    obtain ⟨q, hq, e⟩ := hm m (by omega)
    rw [aaF]
    split
    · rw [e]
      exact h1.ack ((aaF_lo (by omega) m).trans h0) h16 hq
    · exact h1
/-- the events of all these acknowledgements -/
theorem aaF_ev {v o : Nat → Int32} {k N : Nat} (h0 : v 0 = nI k) (h16 : k ≤ 16) (hN : v 9 = nI N) (hb : N + 100 < 2147483000) : ∀ m, m ≤ 16 → (∀ j, j < m → ∃ q, q < k ∧ o j = nI q) → (aaF v o m).2 ≤ m ∧ (aaF v o m).1 9 = nI (N + (aaF v o m).2) ∧ ((aaF v o m).2 ≠ 0 → (aaF v o m).1 (80 + 3 * ((N + (aaF v o m).2 - 1) % 30) + 1) = nI 3) := by
  intro m
  induction m with
  | zero => intro _ _; exact ⟨Nat.le_refl _, hN, fun z => absurd rfl z⟩
  | succ m ih =>
    intro hm hq
    obtain ⟨g1, g2, g3⟩ := ih (by omega) (fun j hj => hq j (by omega))
    obtain ⟨q, hqk, e⟩ := hq m (by omega)
    rw [aaF]
    split
    · rename_i c
      rw [e, nI_clamp (show q < 2147483648 from by omega)] at c
      have hok : okP (aaF v o m).1 (nI q) = true := okP_of ((aaF_lo (by omega) m).trans h0) h16 hqk
      have c1 : ¬ (aaF v o m).1 (176 + 56 * q + 10) = nI 1 := by rw [c]; decide
      dsimp only
      rw [e]
      unfold fAck
      rw [nI_clamp (show q < 2147483648 from by omega), if_pos hok, if_neg c1]
      dsimp only
      refine ⟨by omega, ?_, fun _ => ?_⟩
      · rw [sHap_9 (N := N + (aaF v o m).2) (by rw [pk_un (by omega), pk_un (by omega), pk_un (by omega)]; exact g2) (by omega)]
        rfl
      · have e9 : evN (upd (upd (upd (aaF v o m).1 (176 + 56 * q + 10) (nI 1)) 10 ((aaF v o m).1 10 + ((aaF v o m).1 1 - (aaF v o m).1 (176 + 56 * q + 12)))) 11 ((aaF v o m).1 11 + nI 1)) = N + (aaF v o m).2 := evN_of (by rw [pk_un (by omega), pk_un (by omega), pk_un (by omega)]; exact g2) (by omega)
        unfold sHap sHapN
        rw [e9, show N + ((aaF v o m).2 + 1) - 1 = N + (aaF v o m).2 from by omega, pk_un (by omega), pk_un (by omega), pk_us]
    · exact ⟨by omega, g2, g3⟩
