/-! ===== p30: what calls answer ===== -/
theorem okP_no {v : Nat → Int32} {k : Nat} (h0 : v 0 = nI k) (h16 : k ≤ 16) : ¬ okP v (nI k) = true := by
  intro h
  obtain ⟨i, hi, e⟩ := okP_nat h0 h16 h
  have := (nI_eq (show k < 2 ^ 31 from by omega) (show i < 2 ^ 31 from by omega)).mp e
  omega
theorem okP_ng {v : Nat → Int32} {k : Nat} {x : Int32} (h0 : v 0 = nI k) (h16 : k ≤ 16) (hx : x < 0) : ¬ okP v x = true := by
  intro h
  obtain ⟨i, hi, e⟩ := okP_nat h0 h16 h
  rw [e] at hx
  exact nI_pos (by omega) hx
theorem fVal_n {v : Nat → Int32} {x y : Int32} (h : ¬ okP v x = true) : fVal v x y = (-20001, v) := if_neg h
theorem fVal_y {v : Nat → Int32} {x y : Int32} (h : ¬ okV y = true) : fVal v x y = (-20001, v) := by
  unfold fVal
  split <;> rfl
theorem fVal_s {v : Nat → Int32} {k i : Nat} {y : Int32} (h0 : v 0 = nI k) (h16 : k ≤ 16) (hi : i < k) (h : okV y = true) : fVal v (nI i) y = (v (176 + 56 * i + 7), upd v (176 + 56 * i + 7) y) := by
  unfold fVal
  rw [if_pos (okP_of h0 h16 hi), if_pos h, nI_clamp (show i < 2147483648 from by omega)]
theorem fMod_n {v : Nat → Int32} {x : Int32} (h : ¬ decide (nI 0 ≤ x ∧ x ≤ nI 3) = true) : fMod v x = (-20001, v) := if_neg h
theorem fTks_n {v : Nat → Int32} {k T S : Nat} {x : Int32} (h : ¬ decide (nI 1 ≤ x ∧ x ≤ nI 100) = true) : fTks v k T S x = (-20001, v) := if_neg h
theorem fTks_s {v : Nat → Int32} {k T S m : Nat} (h1 : 1 ≤ m) (h2 : m ≤ 100) (h3 : T + m ≤ 10000) : fTks v k T S (nI m) = (nI (T + m), tkF v k T S m) := by
  unfold fTks
  rw [if_pos (decide_eq_true ⟨(nI_leI (by omega) (by omega)).mpr h1, (nI_leI (by omega) (by omega)).mpr h2⟩), nI_clamp (show m < 2147483648 from by omega), if_pos h3]
theorem fAck_n {v : Nat → Int32} {x : Int32} (h : ¬ okP v x = true) : fAck v x = (-20001, v) := if_neg h
theorem fAck_t {v : Nat → Int32} {k i : Nat} (h0 : v 0 = nI k) (h16 : k ≤ 16) (hi : i < k) (h : v (176 + 56 * i + 10) = nI 1) : fAck v (nI i) = (-20002, v) := by
  unfold fAck
  rw [if_pos (okP_of h0 h16 hi), nI_clamp (show i < 2147483648 from by omega), if_pos h]
def wAck (v : Nat → Int32) (i : Nat) : Nat → Int32 := upd (upd (upd v (176 + 56 * i + 10) (nI 1)) 10 (v 10 + (v 1 - v (176 + 56 * i + 12)))) 11 (v 11 + nI 1)
theorem fAck_s {v : Nat → Int32} {k i : Nat} (h0 : v 0 = nI k) (h16 : k ≤ 16) (hi : i < k) (h : ¬ v (176 + 56 * i + 10) = nI 1) : fAck v (nI i) = (v 1 - v (176 + 56 * i + 12), sHap (wAck v i) (nI 3) (nI i)) := by
  unfold fAck
  rw [if_pos (okP_of h0 h16 hi), nI_clamp (show i < 2147483648 from by omega), if_neg h]
  rfl
theorem fShv_n {v : Nat → Int32} {x y : Int32} (h : ¬ okP v x = true) : fShv v x y = (-20001, v) := if_neg h
theorem fShv_t {v : Nat → Int32} {x y : Int32} (h : ¬ decide (nI 1 ≤ y ∧ y ≤ nI 1000) = true) : fShv v x y = (-20001, v) := by
  unfold fShv
  split <;> rfl
theorem in_1000 {y : Nat} (h1 : 1 ≤ y) (h2 : y ≤ 1000) : decide (nI 1 ≤ nI y ∧ nI y ≤ nI 1000) = true := decide_eq_true ⟨(nI_leI (by omega) (by omega)).mpr h1, (nI_leI (by omega) (by omega)).mpr h2⟩
theorem fShv_p {v : Nat → Int32} {k i y : Nat} (h0 : v 0 = nI k) (h16 : k ≤ 16) (hi : i < k) (h1 : 1 ≤ y) (h2 : y ≤ 1000) (h : v (176 + 56 * i + 5) = nI 1) : fShv v (nI i) (nI y) = (-20002, v) := by
  unfold fShv
  rw [if_pos (okP_of h0 h16 hi), if_pos (in_1000 h1 h2), nI_clamp (show i < 2147483648 from by omega), if_pos h]
theorem fShv_s {v : Nat → Int32} {k i y : Nat} (h0 : v 0 = nI k) (h16 : k ≤ 16) (hi : i < k) (h1 : 1 ≤ y) (h2 : y ≤ 1000) (h : ¬ v (176 + 56 * i + 5) = nI 1) : fShv v (nI i) (nI y) = (v 1 + nI y, sHap (upd v (176 + 56 * i + 13) (v 1 + nI y)) (nI 4) (nI i)) := by
  unfold fShv
  rw [if_pos (okP_of h0 h16 hi), if_pos (in_1000 h1 h2), nI_clamp (show i < 2147483648 from by omega), if_neg h]
theorem fUns_n {v : Nat → Int32} {x : Int32} (h : ¬ okP v x = true) : fUns v x = (-20001, v) := if_neg h
theorem fUns_0 {v : Nat → Int32} {k i : Nat} (h0 : v 0 = nI k) (h16 : k ≤ 16) (hi : i < k) (h : v (176 + 56 * i + 13) = 0) : fUns v (nI i) = (-20002, v) := by
  unfold fUns
  rw [if_pos (okP_of h0 h16 hi), nI_clamp (show i < 2147483648 from by omega), if_pos h]
theorem fUns_s {v : Nat → Int32} {k i : Nat} (h0 : v 0 = nI k) (h16 : k ≤ 16) (hi : i < k) (h : ¬ v (176 + 56 * i + 13) = 0) : fUns v (nI i) = (v (176 + 56 * i + 13) - v 1, sHap (upd v (176 + 56 * i + 13) (nI 0)) (nI 5) (nI i)) := by
  unfold fUns
  rw [if_pos (okP_of h0 h16 hi), nI_clamp (show i < 2147483648 from by omega), if_neg h]
theorem fPt_n {v : Nat → Int32} {x y : Int32} (h : ¬ okP v x = true) : fPoint v x y = -20001 := if_neg h
theorem fPt_y {v : Nat → Int32} {x y : Int32} (h : ¬ decide (nI 0 ≤ y ∧ y ≤ nI 15) = true) : fPoint v x y = -20001 := by
  unfold fPoint
  split <;> rfl
theorem fPt_w {v : Nat → Int32} {k i w : Nat} (h0 : v 0 = nI k) (h16 : k ≤ 16) (hi : i < k) (hw : w < 15) : fPoint v (nI i) (nI w) = v (176 + 56 * i + w) := by
  unfold fPoint
  rw [if_pos (okP_of h0 h16 hi), if_pos (nI_in16 (by omega) (by omega)), nI_clamp (show i < 2147483648 from by omega), nI_clamp (show w < 2147483648 from by omega), if_pos hw]
theorem fPt_15 {v : Nat → Int32} {k i : Nat} (h0 : v 0 = nI k) (h16 : k ≤ 16) (hi : i < k) : fPoint v (nI i) (nI 15) = sWhy v i := by
  unfold fPoint
  rw [if_pos (okP_of h0 h16 hi), if_pos (by decide), nI_clamp (show i < 2147483648 from by omega), nI_clamp (show 15 < 2147483648 from by omega), if_neg (by omega)]
theorem fPl_n {v : Nat → Int32} {T S : Nat} {x : Int32} (h : ¬ decide (nI 0 ≤ x ∧ x ≤ nI 4) = true) : fPlant v T S x = -20001 := if_neg h
theorem fPl_0 {v : Nat → Int32} {T S : Nat} : fPlant v T S (nI 0) = v 1 := by unfold fPlant; rw [if_pos (by decide), if_pos (by decide)]
theorem fPl_1 {v : Nat → Int32} {T S : Nat} : fPlant v T S (nI 1) = v 2 := by unfold fPlant; rw [if_pos (by decide), if_neg (by decide), if_pos rfl]
theorem fPl_2 {v : Nat → Int32} {T S : Nat} : fPlant v T S (nI 2) = v 3 := by unfold fPlant; rw [if_pos (by decide), if_neg (by decide), if_neg (by decide), if_pos rfl]
theorem fPl_3 {v : Nat → Int32} {T S : Nat} : fPlant v T S (nI 3) = rsum v T S T (nI 0) := by unfold fPlant; rw [if_pos (by decide), if_neg (by decide), if_neg (by decide), if_neg (by decide), if_pos rfl]
theorem fPl_4 {v : Nat → Int32} {T S : Nat} : fPlant v T S (nI 4) = v 8 := by unfold fPlant; rw [if_pos (by decide), if_neg (by decide), if_neg (by decide), if_neg (by decide), if_neg (by decide)]
theorem fLs_n {v o : Nat → Int32} {k : Nat} : fList v o k (-1) = -20001 := if_neg (by decide)
theorem fLs_o {v o : Nat → Int32} {k j : Nat} (hj : j < 2147483648) (h : (lsF v o k).2 ≤ j) : fList v o k (nI j) = -20009 := by
  unfold fList
  rw [if_pos (nI_pos' hj), if_neg (nI_nlt h hj)]
theorem fLs_i {v o : Nat → Int32} {k j : Nat} (h16 : k ≤ 16) (h : j < (lsF v o k).2) : fList v o k (nI j) = (lsF v o k).1 j := by
  have := (lsF_ok (v := v) (o := o) k).1
  unfold fList
  rw [if_pos (nI_pos' (by omega)), if_pos (nI_lt h (by omega)), nI_clamp (show j < 2147483648 from by omega)]
theorem fCt_n {v : Nat → Int32} {k : Nat} : fCount v k (nI 8) = -20001 := if_neg (by decide)
theorem fCt_w {v : Nat → Int32} {k w : Nat} (hw : w ≤ 7) : fCount v k (nI w) = cntF v w k := by
  unfold fCount
  rw [if_pos (nI_in16 hw (by omega)), nI_clamp (show w < 2147483648 from by omega)]
theorem fEv_n {v : Nat → Int32} {N : Nat} {y : Int32} : fEvent v N (-1) y = -20001 := if_pos (by decide)
theorem fEv_3 {v : Nat → Int32} {N : Nat} : fEvent v N (nI 0) (nI 3) = -20001 := by unfold fEvent; rw [if_neg (by decide), if_neg (by decide)]
theorem fEv_w {v : Nat → Int32} {N j w : Nat} (hj : j < 2147483648) (hw : w ≤ 2) : fEvent v N (nI j) (nI w) = evOf v N j w := by
  unfold fEvent
  rw [if_neg (nI_pos hj), if_pos (nI_in16 hw (by omega)), nI_clamp hj, nI_clamp (show w < 2147483648 from by omega)]
theorem fEv_30 {v : Nat → Int32} {N : Nat} : fEvent v N (nI 30) (nI 0) = -20009 := by
  rw [fEv_w (by omega) (by omega), evOf, if_neg (by omega)]
theorem fEv_N {v : Nat → Int32} {N : Nat} (hN : N < 2147483648) : fEvent v N (nI N) (nI 0) = -20009 := by
  rw [fEv_w hN (by omega), evOf]
  split
  · rw [if_neg (by omega)]
  · rfl
/-- the newest event -/
theorem ev_hap {u : Nat → Int32} {N w : Nat} {a b : Int32} (h9 : u 9 = nI N) (hN : N + 1 < 2147483000) (hw : w ≤ 2) : fEvent (sHap u a b) (N + 1) (nI 0) (nI w) = if w = 0 then u 1 else if w = 1 then a else b := by
  rw [fEv_w (by omega) hw, evOf, if_pos (by omega), if_pos (by omega), show N + 1 - 1 - 0 = N from by omega]
  unfold sHap sHapN
  rw [evN_of h9 (by omega)]
  have hw3 : w = 0 ∨ w = 1 ∨ w = 2 := by omega
  rcases hw3 with rfl | rfl | rfl
  · rw [pk_un (by omega), pk_un (by omega), pk_un (by omega), Nat.add_zero, pk_us, if_pos rfl]
  · rw [pk_un (by omega), pk_un (by omega), pk_us, if_neg (by omega), if_pos rfl]
  · rw [pk_un (by omega), pk_us, if_neg (by omega), if_neg (by omega)]
theorem fRe_n {v : Nat → Int32} {x y : Int32} (h : ¬ okP v x = true) : fReplay v x y = -20001 := if_neg h
theorem fRe_y {v : Nat → Int32} {x y : Int32} (h : ¬ decide (nI 0 ≤ y ∧ y ≤ nI 1000) = true) : fReplay v x y = -20001 := by
  unfold fReplay
  split <;> rfl
theorem fLe_y {v : Nat → Int32} {x y : Int32} (h : ¬ decide (nI 0 ≤ y ∧ y ≤ nI 40) = true) : fLeast v x y = -20001 := by
  unfold fLeast
  split <;> rfl
theorem DK.to9 {kd : jx_K} {R : jx_R} {I : jx_I} {d : Nat} {v p : Nat → Int32} {q B k T S N : Nat} (h : DK kd R I d v p q B) (h0 : v 0 = nI k) (hk : k ≤ 16) (h1 : v 1 = nI T) (hT : T ≤ 10000) (h5 : v 5 = nI S) (hS : S ≤ 60) (h9 : v 9 = nI N) (hN : N < 2147483000) (hB : B < 2147483000) : VI v k T S N ∧ N ≤ B ∧ VX v k := by
  obtain ⟨S', N', h2, h3, h4⟩ := h.to h0 hk h1 hT
  have c := h2.sl
  have e1 : S' = S := (nI_eq (by omega) (by omega)).mp (h2.s.symm.trans h5)
  have e2 : N' = N := (nI_eq (by omega) (by omega)).mp (h2.n.symm.trans h9)
  subst e1; subst e2
  exact ⟨h2, h3, h4⟩
/-- the law's state: a desk with k points at the time T -/
def LZ (kd : jx_K) (R : jx_R) (I : jx_I) (d k T B : Nat) : Prop := ∃ v p q S N, DK kd R I d v p q B ∧ VI v k T S N ∧ N ≤ B ∧ PI v k T
