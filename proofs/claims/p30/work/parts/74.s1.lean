/-! ===== p30: the law's own desk: how it is set up ===== -/
def jx_QL : jx_Q := fun v _ _ _ _ => v = some (.int 1)
theorem j_retiL {E : jx_E} {l : Launch} {cd : ByteArray} {nL : Nat} {ret : Option FieldType} {own : String} {ini : Bool} {Rm : Room} {mc ms n : Nat} {kd : jx_K} {R : jx_R} {I : jx_I} {pc : Nat} {lv : List (Option Value)} {x : Int32} {ty : FieldType} (hd : decode cd pc = .ok (.ireturn, 1)) (hr : ret = some ty) (hn : narrow ty (.int x) = .int x) (h : x = nI 1) : jx_J E l cd nL ret own ini Rm mc ms jx_QL mc ms n kd R I pc lv [.int x] :=
  j_ireturn hd hr hn (by subst h; rfl)
theorem and_1 (x : Int32) : ∃ b, b ≤ 1 ∧ x &&& nI 1 = nI b := by
  by_cases h : pt_b x 0 = true
  · exact ⟨1, by omega, (pt_is x).mpr h⟩
  · refine ⟨0, by omega, pt_ext (fun i hi => ?_)⟩
    rw [pt_and, pt_one i hi, pt_z i hi]
    by_cases h0 : i = 0
    · subst h0
      rw [Bool.eq_false_iff.mpr h]
      rfl
    · simp [h0]
theorem okV_sub {a b : Nat} (ha : a ≤ 10000) (hb : b ≤ 10000) : okV (nI a - nI b) = true := by
  have e := pk_sub_toInt (a := a) (b := b) (by omega) (by omega)
  have e1 : (-10000 : Int32).toInt = -10000 := rfl
  have e2 : (nI 10000).toInt = 10000 := rfl
  refine decide_eq_true ⟨?_, ?_⟩
  · rw [Int32.le_iff_toInt_le]; omega
  · rw [Int32.le_iff_toInt_le]; omega
theorem in_ab {a b j : Nat} (h1 : a ≤ j) (h2 : j ≤ b) (hb : b < 2147483648) : decide (nI a ≤ nI j ∧ nI j ≤ nI b) = true := decide_eq_true ⟨(nI_leI (by omega) (by omega)).mpr h1, (nI_leI (by omega) (by omega)).mpr h2⟩
/-- a desk that is being set up: n points, no tick yet -/
def SI (v : Nat → Int32) (n : Nat) : Prop := (v 0 = nI n ∧ v 1 = nI 0 ∧ v 5 = nI 10 ∧ v 6 = nI 5 ∧ v 7 = nI 2) ∧ PI v n 0 ∧ ∀ j, j < n → v (176 + 56 * j + 13) = nI 0 ∧ (v (176 + 56 * j + 8) = -1 ∨ ∃ r, r < j ∧ v (176 + 56 * j + 8) = nI r)
theorem SI.add {v : Nat → Int32} {i : Nat} {x y : Int32} (h : SI v i) : SI (fAdd v i x y) (i + 1) := by
  obtain ⟨⟨h0, h1, h5, h6, h7⟩, hP, hr⟩ := h
  have lo : ∀ j, j < 176 → j ≠ 0 → fAdd v i x y j = v j := by
    intro j hj hj0
    unfold fAdd
    rw [pk_un hj0, pk_un (by omega), pk_un (by omega), pk_un (by omega), pk_un (by omega), zeroP_lo hj]
  refine ⟨⟨by unfold fAdd; rw [pk_us], (lo 1 (by omega) (by omega)).trans h1, (lo 5 (by omega) (by omega)).trans h5, (lo 6 (by omega) (by omega)).trans h6, (lo 7 (by omega) (by omega)).trans h7⟩, hP.add, fun j hj => ?_⟩
  by_cases c : j = i
  · subst c
    refine ⟨?_, Or.inl ?_⟩
    · unfold fAdd
      rw [pk_un (by omega), pk_un (by omega), pk_un (by omega), pk_un (by omega), pk_un (by omega), zeroP_z (by omega)]
      rfl
    · unfold fAdd
      rw [pk_un (by omega), pk_un (by omega), pk_us]
  · have e : ∀ w, w < 56 → fAdd v i x y (176 + 56 * j + w) = v (176 + 56 * j + w) := by
      intro w hw
      unfold fAdd
      rw [pk_un (by omega), pk_un (by omega), pk_un (by omega), pk_un (by omega), pk_un (by omega), zeroP_r hw c]
    rw [e 13 (by omega), e 8 (by omega)]
    exact hr j (by omega)
theorem SI.z {v : Nat → Int32} {i w : Nat} {x y : Int32} (hw : w < 56) (h : w ≠ 1 ∧ w ≠ 5 ∧ w ≠ 8 ∧ w ≠ 10) : fAdd v i x y (176 + 56 * i + w) = nI 0 := by
  unfold fAdd
  rw [pk_un (by omega), pk_un (by omega), pk_un (by omega), pk_un (by omega), pk_un (by omega), zeroP_z hw]
  rfl
theorem SI.r {v : Nat → Int32} {i : Nat} {x y : Int32} : fAdd v i x y (176 + 56 * i + 8) = -1 := by
  unfold fAdd
  rw [pk_un (by omega), pk_un (by omega), pk_us]
theorem SI.set {v : Nat → Int32} {n i s : Nat} {y : Int32} (h : SI v n) (hs : s < 7) (h5 : s ≠ 5) : SI (upd v (176 + 56 * i + s) y) n := by
  obtain ⟨⟨a0, a1, a5, a6, a7⟩, hP, hr⟩ := h
  refine ⟨⟨(pk_un (by omega)).trans a0, (pk_un (by omega)).trans a1, (pk_un (by omega)).trans a5, (pk_un (by omega)).trans a6, (pk_un (by omega)).trans a7⟩, hP.u (by omega) (by omega), fun j hj => ?_⟩
  rw [pk_un (by omega), pk_un (by omega)]
  exact hr j hj
theorem SI.root {v : Nat → Int32} {n i : Nat} {y : Int32} (h : SI v n) (hy : y = -1 ∨ ∃ r, r < i ∧ y = nI r) : SI (upd v (176 + 56 * i + 8) y) n := by
  obtain ⟨⟨a0, a1, a5, a6, a7⟩, hP, hr⟩ := h
  refine ⟨⟨(pk_un (by omega)).trans a0, (pk_un (by omega)).trans a1, (pk_un (by omega)).trans a5, (pk_un (by omega)).trans a6, (pk_un (by omega)).trans a7⟩, hP.u (by omega) (by omega), fun j hj => ?_⟩
  rw [pk_un (by omega)]
  by_cases c : j = i
  · subst c
    rw [pk_us]
    exact ⟨(hr j hj).1, hy⟩
  · rw [pk_un (by omega)]
    exact hr j hj
theorem fSet_z {v : Nat → Int32} {i s : Nat} {y : Int32} (hi : i < 16) (hs : s < 7) (h : v (176 + 56 * i + 13) = nI 0) : fSet v (nI i) (nI s) y = upd v (176 + 56 * i + s) y := by
  unfold fSet
  rw [nI_clamp (show i < 2147483648 from by omega), nI_clamp (show s < 2147483648 from by omega)]
  split
  · rw [if_pos (by rw [pk_un (by omega), h]; decide)]
  · rfl
theorem climb_lo {v : Nat → Int32} {n i : Nat} (hn : n ≤ 16) (hi : i < n) (hr : ∀ j, j < n → v (176 + 56 * j + 8) = -1 ∨ ∃ r, r < j ∧ v (176 + 56 * j + 8) = nI r) : ∀ (f : Nat) (z : Int32), (z = -1 ∨ ∃ r, r < i ∧ z = nI r) → ¬ climb v (nI i) f z = nI i := by
  have hb : ∀ z : Int32, (z = -1 ∨ ∃ r, r < i ∧ z = nI r) → ¬ z = nI i := by
    rintro z (e | ⟨r, hr2, e⟩) h
    · rw [e] at h
      exact nI_pos (show i < 2 ^ 31 from by omega) (h ▸ (by decide : (-1 : Int32) < 0))
    · rw [e] at h
      have := (nI_eq (show r < 2 ^ 31 from by omega) (show i < 2 ^ 31 from by omega)).mp h
      omega
  intro f
  induction f with
  | zero => intro z hz; rw [climb]; exact hb z hz
  | succ f ih =>
    intro z hz
    rcases hz with e | ⟨r, hr2, e⟩
    · rw [climb_n (by rw [e]; decide)]
      exact hb z (Or.inl e)
    · have hzn := hb z (Or.inr ⟨r, hr2, e⟩)
      rw [climb, if_neg (by rw [e]; exact nI_pos (by omega)), if_neg hzn]
      rw [e, nI_clamp (show r < 2147483648 from by omega)]
      refine ih _ ?_
      rcases hr r (by omega) with e2 | ⟨r2, h2, e2⟩
      · exact Or.inl e2
      · exact Or.inr ⟨r2, by omega, e2⟩
theorem root_v {i j : Nat} (hj : j < i + 1) (hi : i < 16) : nI j - nI 1 = -1 ∨ ∃ r, r < i ∧ nI j - nI 1 = nI r := by
  by_cases c : j = 0
  · subst c; exact Or.inl (by decide)
  · exact Or.inr ⟨j - 1, by omega, pk_sub (by omega)⟩
theorem DK.vx {kd : jx_K} {R : jx_R} {I : jx_I} {d : Nat} {v p : Nat → Int32} {q B k T S N : Nat} (h : DK kd R I d v p q B) (hV : VI v k T S N) (hN : N ≤ B) (hB : B < 2147483000) : VX v k := by
  obtain ⟨P, t, L, hs, hM, hS⟩ := h
  exact (hM.at hV hN hB).2
/-- a setting of a new point -/
theorem p_setZ {E : jx_E} {l : Launch} {n : Nat} {kd : jx_K} {R : jx_R} {I : jx_I} {d : Nat} {v p : Nat → Int32} {q B k i s : Nat} {y : Int32} (hD : DK kd R I d v p q B) (hS : SI v k) (hk : k ≤ 16) (hB : B + 70000 < 2147483000) (hi : i < k) (hs : s < 7) (hok : okS (nI s) y = true) (h0 : v (176 + 56 * i + s) = nI 0) : jx_CiR E l yX5_set cX5_set 4 (some .int) 4 n kd R (I) [.ref d, .int (nI i), .int (nI s), .int y] (fun r R' I' => r = nI 0 ∧ DK kd R' I' d (upd v (176 + 56 * i + s) y) (kpP p q v) (kpC q) (B + 60000)) := by
  obtain ⟨S, N, hV, hN, hX⟩ := hD.to hS.1.1 hk hS.1.2.1 (by omega)
  have c : okP v (nI i) = true ∧ okS (nI s) y = true := ⟨okP_of hV.z hk hi, hok⟩
  refine p_sets hD hV hN hB (a := nI 0) (w := upd v (176 + 56 * i + s) y) ((if_pos c).trans ?_) (by decide) ((if_pos c).trans (fSet_z (by omega) hs (hS.2.2 i hi).1))
  rw [nI_clamp (show i < 2147483648 from by omega), nI_clamp (show s < 2147483648 from by omega)]
  exact h0
