/-! ===== p30: bits ===== -/
def pt_b (x : Int32) (i : Nat) : Bool := x.toBitVec.getLsbD i
theorem pt_ext {x y : Int32} (h : ∀ i, i < 32 → pt_b x i = pt_b y i) : x = y := Int32.toBitVec_inj.mp (BitVec.eq_of_getLsbD_eq (fun i hi => h i hi))
theorem pt_or (x y : Int32) (i : Nat) : pt_b (x ||| y) i = (pt_b x i || pt_b y i) := by unfold pt_b; rw [Int32.toBitVec_or, BitVec.getLsbD_or]
theorem pt_and (x y : Int32) (i : Nat) : pt_b (x &&& y) i = (pt_b x i && pt_b y i) := by unfold pt_b; rw [Int32.toBitVec_and, BitVec.getLsbD_and]
theorem pt_one : ∀ i, i < 32 → pt_b (nI 1) i = decide (i = 0) := by decide +kernel
theorem pt_max : ∀ i, i < 32 → pt_b 2147483647 i = decide (i < 31) := by decide +kernel
theorem pt_sl : ∀ n, n < 32 → ((nI n &&& 31).toBitVec.smod 32).toNat = n := by decide +kernel
theorem pt_shl (n : Nat) (hn : n < 32) (x : Int32) {i : Nat} (hi : i < 32) : pt_b (x <<< (nI n &&& 31)) i = (decide (n ≤ i) && pt_b x (i - n)) := by
  unfold pt_b
  rw [Int32.toBitVec_shiftLeft, BitVec.shiftLeft_eq', BitVec.getLsbD_shiftLeft, pt_sl n hn]
  by_cases h : n ≤ i
  · have h1 : ¬ i < n := by omega
    simp [h, h1, hi]
  · have h1 : i < n := by omega
    simp [h, h1]
theorem pt_shr (n : Nat) (hn : n < 32) (x : Int32) {i : Nat} (hi : i < 32) : pt_b (x >>> (nI n &&& 31)) i = if n + i < 32 then pt_b x (n + i) else pt_b x 31 := by
  unfold pt_b
  rw [Int32.toBitVec_shiftRight, BitVec.sshiftRight_eq', BitVec.getLsbD_sshiftRight, pt_sl n hn]
  have h : ¬ 32 ≤ i := by omega
  by_cases h1 : n + i < 32
  · simp [h, h1]
  · simp [h, h1, BitVec.msb_eq_getLsbD_last]
theorem pt_is (y : Int32) : y &&& nI 1 = nI 1 ↔ pt_b y 0 = true := by
  constructor
  · intro h
    have e := congrArg (fun z => pt_b z 0) h
    simp only [pt_and] at e
    rw [pt_one 0 (by omega)] at e
    simpa using e
  · intro h
    refine pt_ext (fun i hi => ?_)
    rw [pt_and, pt_one i hi]
    by_cases h0 : i = 0
    · subst h0; simp [h]
    · simp [h0]
theorem pt_neg (x : Int32) : pt_b x 31 = decide (x < 0) := by
  unfold pt_b
  have h : x.toBitVec.getLsbD 31 = x.toBitVec.msb := by rw [BitVec.msb_eq_getLsbD_last]
  rw [h, BitVec.msb_eq_toInt]
  congr 1
  exact propext ⟨fun z => Int32.lt_iff_toInt_lt.mpr z, fun z => Int32.lt_iff_toInt_lt.mp z⟩
/-- what the law's 'up' makes of any int -/
theorem pt_up (x : Int32) : ∃ j : Nat, j < 2147483648 ∧ x &&& 2147483647 = nI j := by
  have h : ¬ (x &&& 2147483647) < 0 := by
    intro z
    have e := pt_neg (x &&& 2147483647)
    rw [pt_and, pt_max 31 (by omega)] at e
    simp [z] at e
  obtain ⟨j, hj, e⟩ := nI_of h
  exact ⟨j, hj, e⟩
/-- the places that were seen, as bits -/
def sn (o : Nat → Int32) : Nat → Int32
  | 0 => nI 0
  | i + 1 => sn o i ||| (nI 1 <<< (o i &&& 31))
theorem pt_z : ∀ a, a < 32 → pt_b (nI 0) a = false := by decide +kernel
theorem sn_bit {o : Nat → Int32} {a : Nat} (ha : a < 16) : ∀ i, (∀ j, j < i → ∃ q, q < 16 ∧ o j = nI q) → (pt_b (sn o i) a = true ↔ ∃ j, j < i ∧ o j = nI a) := by
  intro i
  induction i with
  | zero => intro _; rw [sn, pt_z a (by omega)]; simp
  | succ i ih =>
    intro h
    obtain ⟨q, hq, e⟩ := h i (by omega)
    rw [sn, pt_or, e, pt_shl q (by omega) _ (by omega), Bool.or_eq_true, ih (fun j hj => h j (by omega))]
    constructor
    · rintro (⟨j, hj, h1⟩ | h1)
      · exact ⟨j, by omega, h1⟩
      · rw [Bool.and_eq_true, decide_eq_true_eq, pt_one _ (by omega), decide_eq_true_eq] at h1
        exact ⟨i, by omega, by rw [e, show q = a from by omega]⟩
    · rintro ⟨j, hj, h1⟩
      by_cases hji : j = i
      · subst hji
        rw [e] at h1
        have : q = a := (nI_eq (by omega) (by omega)).mp h1
        subst this
        refine Or.inr ?_
        rw [Bool.and_eq_true, decide_eq_true_eq, pt_one _ (by omega), decide_eq_true_eq]
        omega
      · exact Or.inl ⟨j, by omega, h1⟩
theorem sn_not {o : Nat → Int32} {a i : Nat} (ha : a < 16) (h : ∀ j, j < i → ∃ q, q < 16 ∧ o j = nI q) (hn : ∀ j, j < i → o j ≠ nI a) : ¬ ((sn o i >>> (nI a &&& 31)) &&& nI 1 = nI 1) := by
  rw [pt_is, pt_shr a (by omega) _ (by omega), if_pos (by omega), Nat.add_zero, sn_bit ha i h]
  rintro ⟨j, hj, e⟩
  exact hn j hj e
