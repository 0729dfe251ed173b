/-! ===== errors: what the class takes for one is what the reference takes for one ===== -/
theorem ie_of {r : Int32} (h : r = -20001 ∨ r = -20002 ∨ -20001 < r) : isE r = decide (r ≤ -20001) := by
  rcases h with rfl | rfl | h
  · decide
  · decide
  · have h1 : isE r = false := decide_eq_false (fun z => by rcases z with rfl | rfl <;> exact absurd h (by decide))
    have h2 : decide (r ≤ -20001) = false := decide_eq_false (Int32.not_le.mpr h)
    rw [h1, h2]
theorem ie_n {a : Nat} (h : a < 2147483648) : (-20001 : Int32) < nI a := by
  have h1 : ¬ nI a < 0 := nI_pos h
  have e1 : (-20001 : Int32).toInt = -20001 := rfl
  have e2 : (0 : Int32).toInt = 0 := rfl
  simp only [Int32.lt_iff_toInt_lt] at *
  omega
theorem ie_okV {x : Int32} (h : okV x = true) : (-20001 : Int32) < x := by
  have h1 := (of_decide_eq_true h).1
  have e1 : (-20001 : Int32).toInt = -20001 := rfl
  have e2 : (-10000 : Int32).toInt = -10000 := rfl
  simp only [Int32.lt_iff_toInt_lt, Int32.le_iff_toInt_le] at *
  omega
theorem ie_val {v : Nat → Int32} {k T S N : Nat} {x y : Int32} (hV : VI v k T S N) (hX : VX v k) : isE (fVal v x y).1 = decide ((fVal v x y).1 ≤ -20001) := by
  refine ie_of ?_
  unfold fVal
  split
  · rename_i h
    split
    · obtain ⟨i, hi, rfl⟩ := okP_nat hV.z hV.k16 h
      have := hV.k16
      rw [nI_clamp (by omega)]
      exact Or.inr (Or.inr (ie_okV (hX.1 i hi)))
    · exact Or.inl rfl
  · exact Or.inl rfl
theorem ie_mod {v : Nat → Int32} {k T S N : Nat} {x : Int32} (hV : VI v k T S N) : isE (fMod v x).1 = decide ((fMod v x).1 ≤ -20001) := by
  refine ie_of ?_
  unfold fMod
  split
  · obtain ⟨q, h1, h2⟩ := hV.m
    dsimp only
    rw [h2]
    exact Or.inr (Or.inr (ie_n (by omega)))
  · exact Or.inl rfl
theorem ack_n {v : Nat → Int32} {k T S N i : Nat} (hV : VI v k T S N) (hi : i < k) : ∃ a, a ≤ 10000 ∧ v 1 - v (176 + 56 * i + 12) = nI a := by
  obtain ⟨l, h1, h2⟩ := hV.la hi
  have := hV.tl
  exact ⟨T - l, by omega, by rw [h2, hV.t, pk_sub h1]⟩
theorem ie_ack {v : Nat → Int32} {k T S N : Nat} {x : Int32} (hV : VI v k T S N) : isE (fAck v x).1 = decide ((fAck v x).1 ≤ -20001) := by
  refine ie_of ?_
  unfold fAck
  split
  · rename_i h
    split
    · exact Or.inr (Or.inl rfl)
    · obtain ⟨i, hi, rfl⟩ := okP_nat hV.z hV.k16 h
      have := hV.k16
      obtain ⟨a, ha, e⟩ := ack_n hV hi
      dsimp only
      rw [nI_clamp (by omega), e]
      exact Or.inr (Or.inr (ie_n (by omega)))
  · exact Or.inl rfl
theorem ie_shv {v : Nat → Int32} {k T S N : Nat} {x y : Int32} (hV : VI v k T S N) : isE (fShv v x y).1 = decide ((fShv v x y).1 ≤ -20001) := by
  refine ie_of ?_
  unfold fShv
  split
  · split
    · rename_i h
      split
      · exact Or.inr (Or.inl rfl)
      · obtain ⟨j, h1, h2, rfl⟩ := in_nat h (by omega) (by omega)
        have := hV.tl
        dsimp only
        rw [hV.t, nI_add]
        exact Or.inr (Or.inr (ie_n (by omega)))
    · exact Or.inl rfl
  · exact Or.inl rfl
theorem ie_tks {v : Nat → Int32} {k T S : Nat} {x : Int32} : isE (fTks v k T S x).1 = decide ((fTks v k T S x).1 ≤ -20001) := by
  refine ie_of ?_
  unfold fTks
  split
  · split
    · exact Or.inr (Or.inr (ie_n (by omega)))
    · exact Or.inr (Or.inl rfl)
  · exact Or.inl rfl
theorem ie_dsF {v c : Nat → Int32} {k T S N j : Nat} (hV : VI v k T S N) (hX : VX v k) : isE (dsF v c k T S j).1 = decide ((dsF v c k T S j).1 ≤ -20001) := by
  unfold dsF
  split
  · exact ie_val hV hX
  · split
    · exact ie_ack hV
    · split
      · exact ie_shv hV
      · split
        · exact ie_tks
        · exact ie_mod hV
theorem VX.ds {v c : Nat → Int32} {k T S N j : Nat} (hV : VI v k T S N) (hX : VX v k) : VX (dsF v c k T S j).2 k := by
  unfold dsF
  split
  · exact hX.val
  · split
    · exact hX.kx hV.k16 KX.ack
    · split
      · exact hX.kx hV.k16 KX.shv
      · split
        · exact hX.kx hV.k16 KX.tks
        · exact hX.kx hV.k16 KX.mod
set_option maxRecDepth 100000 in
set_option maxHeartbeats 4000000 in
theorem c_X5_carryOut {E : jx_E} {l : Launch} {n : Nat} {kd : jx_K} {R : jx_R} {I : jx_I} {d : Nat} {P : Nat → Nat} {v : Nat → Int32} {k T S N : Nat} {c : Nat → Int32} {j : Nat} (hs : sDk kd R d P) (hA : aSt I (stA d (P 4)) v k T) (hV : VI v k T S N) (hNb : N + 5000 < 2147483000) (hc : cmE (I (d + 1 + 2)) (I (d + 1 + 3)) (I (d + 1 + 4)) j c j) (hj : j < 14) : jx_Ci E l yX5_carryOut cX5_carryOut 4 (some .int) 6 n kd R I [.ref d, .int (nI j)] (fun r I' => r = (dsF v c k T S j).1 ∧ ∃ T' N', N ≤ N' ∧ N' ≤ N + 3300 ∧ aS I I' (stA d (P 4)) (dsF v c k T S j).2 k T' S N') := by
  obtain ⟨K0, K6, K7, R0, R1, R2, R4, R5, Rp, hsc, hst, hP6, hinj⟩ := id hs
  have S4 := hs.st (show 4 < 6 from by omega)
  have S5 := hs.st (show 5 < 6 from by omega)
  have K4 := S4.1
  have K5 := S5.1
  obtain ⟨_, QK1, QR0, QR1, QR2, hF, hL, hP⟩ := id S4
  obtain ⟨FK0, FK1, FR0⟩ := id hF
  obtain ⟨LK0, LK1, LK2, LK3, LR0, LR1, LR2⟩ := id hL
  have h : aS I I (stA d (P 4)) v k T S N := ⟨hA, hV, fun _ _ => rfl⟩
  have h16 := hV.k16
  have hT1 := hV.tl
  have hS1 := hV.sl
  obtain ⟨SK0, SK1, SK2, SK3, SK4, SR0, SR1, SR2, SR3⟩ := id hsc
  refine jx_C0.ofJ RX5 [some (.ref d), some (.int (nI j)), none, none] (by decide) rfl rfl (Nat.le_of_ble_eq_true rfl) rfl ?_
  refine j_aload_n (pc' := 1) dX5_carryOut_0 rfl rfl ?_
  refine j_getR (pc' := 4) f_X5_10 (by assumption) (by assumption) dX5_carryOut_1 rfl ?_
  refine j_getR (pc' := 7) f_X5_206 (by assumption) (by assumption) dX5_carryOut_4 rfl ?_
  refine j_iload_n (pc' := 8) dX5_carryOut_7 rfl rfl ?_
  refine j_ialdv (pc' := 9) (by assumption) rfl (by omega) (by omega) (by first | (simp (disch := omega) only [jx_upS, jx_upK, jx_upA, hc.1, hc.2.1]; rfl) | rfl) dX5_carryOut_8 rfl ?_
  refine j_istore_n (pc' := 10) (lv' := [_, _, _, _]) dX5_carryOut_9 rfl (by decide) rfl ?_
  refine j_aload_n (pc' := 11) dX5_carryOut_10 rfl rfl ?_
  refine j_getR (pc' := 14) f_X5_10 (by assumption) (by assumption) dX5_carryOut_11 rfl ?_
  refine j_getR (pc' := 17) f_X5_209 (by assumption) (by assumption) dX5_carryOut_14 rfl ?_
  refine j_iload_n (pc' := 18) dX5_carryOut_17 rfl rfl ?_
  refine j_ialdv (pc' := 19) (by assumption) rfl (by omega) (by omega) (by first | (simp (disch := omega) only [jx_upS, jx_upK, jx_upA, hc.1, hc.2.1]; rfl) | rfl) dX5_carryOut_18 rfl ?_
  refine j_istore_n (pc' := 20) (lv' := [_, _, _, _]) dX5_carryOut_19 rfl (by decide) rfl ?_
  refine j_aload_n (pc' := 21) dX5_carryOut_20 rfl rfl ?_
  refine j_getR (pc' := 24) f_X5_10 (by assumption) (by assumption) dX5_carryOut_21 rfl ?_
  refine j_getR (pc' := 27) f_X5_212 (by assumption) (by assumption) dX5_carryOut_24 rfl ?_
  refine j_iload_n (pc' := 28) dX5_carryOut_27 rfl rfl ?_
  refine j_ialdv (pc' := 29) (by assumption) rfl (by omega) (by omega) (by first | (simp (disch := omega) only [jx_upS, jx_upK, jx_upA, hc.1, hc.2.1]; rfl) | rfl) dX5_carryOut_28 rfl ?_
  by_cases t0 : c (3 * j) = nI 0
  ·
    refine j_tableIn (tgt := 60) (off := 31) dX5_carryOut_29 (by rw [t0]; decide) (by rw [t0]; decide) (by rw [t0]; rfl) (by decide) ?_
    rw [hc.2.2 (Or.inl t0)]
    refine j_aload_n (pc' := 61) dX5_carryOut_60 rfl rfl ?_
    refine j_getR (pc' := 64) f_X5_27 (by assumption) (by assumption) dX5_carryOut_61 rfl ?_
    refine j_iload_n (pc' := 65) dX5_carryOut_64 rfl rfl ?_
    refine j_iload_n (pc' := 66) dX5_carryOut_65 rfl rfl ?_
    refine j_cVi (pc' := 69) m_X5_52 (c_X4_changeValue S4 h) (by assumption) (by decide) rfl rfl rfl ⟨Nat.le_of_ble_eq_true rfl, Nat.le_of_ble_eq_true rfl⟩ ⟨Nat.zero_le _, Nat.zero_le _⟩ (Nat.le_of_ble_eq_true rfl) dX5_carryOut_66 rfl (fun x1 I1 hq => ?_)
    obtain ⟨rfl, h2⟩ := hq
    refine j_reti dX5_carryOut_69 rfl (by first | rfl | exact bi_n _) ?_
    rw [dsF, if_pos t0]
    exact ⟨rfl, T, N, by omega, by omega, h2⟩
  ·
    by_cases t1 : c (3 * j) = nI 1
    ·
      refine j_tableIn (tgt := 70) (off := 41) dX5_carryOut_29 (by rw [t1]; decide) (by rw [t1]; decide) (by rw [t1]; rfl) (by decide) ?_
      refine j_aload_n (pc' := 71) dX5_carryOut_70 rfl rfl ?_
      refine j_getR (pc' := 74) f_X5_27 (by assumption) (by assumption) dX5_carryOut_71 rfl ?_
      refine j_iload_n (pc' := 75) dX5_carryOut_74 rfl rfl ?_
      refine j_cVi (pc' := 78) m_X5_101 (c_X4_acknowledge S4 h (by omega)) (by assumption) (by decide) rfl rfl rfl ⟨Nat.le_of_ble_eq_true rfl, Nat.le_of_ble_eq_true rfl⟩ ⟨Nat.zero_le _, Nat.zero_le _⟩ (Nat.le_of_ble_eq_true rfl) dX5_carryOut_75 rfl (fun x1 I1 hq => ?_)
      obtain ⟨rfl, N', hN1, hN2, h2⟩ := hq
      refine j_reti dX5_carryOut_78 rfl (by first | rfl | exact bi_n _) ?_
      rw [dsF, if_neg t0, if_pos t1]
      exact ⟨rfl, T, N', by omega, by omega, h2⟩
    ·
      by_cases t2 : c (3 * j) = nI 2
      ·
        refine j_tableIn (tgt := 79) (off := 50) dX5_carryOut_29 (by rw [t2]; decide) (by rw [t2]; decide) (by rw [t2]; rfl) (by decide) ?_
        rw [hc.2.2 (Or.inr t2)]
        refine j_aload_n (pc' := 80) dX5_carryOut_79 rfl rfl ?_
        refine j_getR (pc' := 83) f_X5_27 (by assumption) (by assumption) dX5_carryOut_80 rfl ?_
        refine j_iload_n (pc' := 84) dX5_carryOut_83 rfl rfl ?_
        refine j_iload_n (pc' := 85) dX5_carryOut_84 rfl rfl ?_
        refine j_cVi (pc' := 88) m_X5_111 (c_X4_putOnShelf S4 h (by omega)) (by assumption) (by decide) rfl rfl rfl ⟨Nat.le_of_ble_eq_true rfl, Nat.le_of_ble_eq_true rfl⟩ ⟨Nat.zero_le _, Nat.zero_le _⟩ (Nat.le_of_ble_eq_true rfl) dX5_carryOut_85 rfl (fun x1 I1 hq => ?_)
        obtain ⟨rfl, N', hN1, hN2, h2⟩ := hq
        refine j_reti dX5_carryOut_88 rfl (by first | rfl | exact bi_n _) ?_
        rw [dsF, if_neg t0, if_neg t1, if_pos t2]
        exact ⟨rfl, T, N', by omega, by omega, h2⟩
      ·
        by_cases t3 : c (3 * j) = nI 3
        ·
          refine j_tableIn (tgt := 89) (off := 60) dX5_carryOut_29 (by rw [t3]; decide) (by rw [t3]; decide) (by rw [t3]; rfl) (by decide) ?_
          refine j_aload_n (pc' := 90) dX5_carryOut_89 rfl rfl ?_
          refine j_getR (pc' := 93) f_X5_27 (by assumption) (by assumption) dX5_carryOut_90 rfl ?_
          refine j_iload_n (pc' := 94) dX5_carryOut_93 rfl rfl ?_
          refine j_cVi (pc' := 97) m_X5_76 (c_X4_passTicks S4 h (by omega)) (by assumption) (by decide) rfl rfl rfl ⟨Nat.le_of_ble_eq_true rfl, Nat.le_of_ble_eq_true rfl⟩ ⟨Nat.zero_le _, Nat.zero_le _⟩ (Nat.le_of_ble_eq_true rfl) dX5_carryOut_94 rfl (fun x1 I1 hq => ?_)
          obtain ⟨rfl, T', N', hN1, hN2, h2⟩ := hq
          refine j_reti dX5_carryOut_97 rfl (by first | rfl | exact bi_n _) ?_
          rw [dsF, if_neg t0, if_neg t1, if_neg t2, if_pos t3]
          exact ⟨rfl, T', N', by omega, by omega, h2⟩
        ·
          refine j_tableOut (tgt := 98) dX5_carryOut_29 (by
            have e0 : (c (3 * j)).toInt ≠ 0 := fun z => t0 (Int32.toInt_inj.mp (z.trans (by decide)))
            have e1 : (c (3 * j)).toInt ≠ 1 := fun z => t1 (Int32.toInt_inj.mp (z.trans (by decide)))
            have e2 : (c (3 * j)).toInt ≠ 2 := fun z => t2 (Int32.toInt_inj.mp (z.trans (by decide)))
            have e3 : (c (3 * j)).toInt ≠ 3 := fun z => t3 (Int32.toInt_inj.mp (z.trans (by decide)))
            omega) (by decide) ?_
          refine j_aload_n (pc' := 99) dX5_carryOut_98 rfl rfl ?_
          refine j_getR (pc' := 102) f_X5_27 (by assumption) (by assumption) dX5_carryOut_99 rfl ?_
          refine j_iload_n (pc' := 103) dX5_carryOut_102 rfl rfl ?_
          refine j_cVi (pc' := 106) m_X5_70 (c_X4_changeMode S4 h) (by assumption) (by decide) rfl rfl rfl ⟨Nat.le_of_ble_eq_true rfl, Nat.le_of_ble_eq_true rfl⟩ ⟨Nat.zero_le _, Nat.zero_le _⟩ (Nat.le_of_ble_eq_true rfl) dX5_carryOut_103 rfl (fun x1 I1 hq => ?_)
          obtain ⟨rfl, h2⟩ := hq
          refine j_reti dX5_carryOut_106 rfl (by first | rfl | exact bi_n _) ?_
          rw [dsF, if_neg t0, if_neg t1, if_neg t2, if_neg t3]
          exact ⟨rfl, T, N, by omega, by omega, h2⟩
theorem aS.f8 {kd : jx_K} {R : jx_R} {d : Nat} {P : Nat → Nat} {I I1 : jx_I} {w : Nat → Int32} {j k T S N : Nat} (hs : sDk kd R d P) (hj : j < 6) (h2 : aS I I1 (stA d (P j)) w k T S N) : ∀ z, z < d + 8 ∨ d + 344 ≤ z → I1 z = I z := fun z hz => h2.fr z (by have := hs.lo (j := j); have := hs.hi hj; omega)
theorem scI.fr {d : Nat} {I I1 : jx_I} {t : Nat → Int32} {L : Nat} (h : scI d I t L) (e : ∀ z, d < z → z < d + 6 → I1 z = I z) : scI d I1 t L := by
  unfold scI at *
  rw [e _ (by omega) (by omega), e _ (by omega) (by omega)]
  exact h
theorem dN.fr {kd : jx_K} {R : jx_R} {d : Nat} {P : Nat → Nat} {I I1 : jx_I} {u w p : Nat → Int32} {q B : Nat} (hs : sDk kd R d P) (h : dN I d P u w p q B) (e : ∀ z, z = d ∨ d + 8 ≤ z → I1 z = I z) : dN I1 d P u w p q B := by
  obtain ⟨⟨h3, hq, h4, hp⟩, h5⟩ := h
  have fr : ∀ i z, stA d (P i) ≤ z → z < stA d (P i) + 56 → I1 z = I z := fun i z a b => e z (by have := hs.lo (j := i); omega)
  exact ⟨⟨by rw [e d (Or.inl rfl)]; exact h3, hq, h4.fr (fr 4), fun j hj => (hp j hj).fr (fr j)⟩, h5.fr (fr 5)⟩
theorem dM.fr {kd : jx_K} {R : jx_R} {d : Nat} {P : Nat → Nat} {I I1 : jx_I} {w p : Nat → Int32} {q B : Nat} (hs : sDk kd R d P) (h : dM I d P w p q B) (e : ∀ z, z = d ∨ d + 8 ≤ z → I1 z = I z) : dM I1 d P w p q B := by
  obtain ⟨h3, hq, h4, hp⟩ := h
  have fr : ∀ i z, stA d (P i) ≤ z → z < stA d (P i) + 56 → I1 z = I z := fun i z a b => e z (by have := hs.lo (j := i); omega)
  exact ⟨by rw [e d (Or.inl rfl)]; exact h3, hq, h4.fr (fr 4), fun j hj => (hp j hj).fr (fr j)⟩
set_option maxRecDepth 100000 in
set_option maxHeartbeats 4000000 in
theorem lp_X5_run {E : jx_E} {l : Launch} {n : Nat} {kd : jx_K} {R : jx_R} {J0 : jx_I} {d : Nat} {P : Nat → Nat} {u p t c : Nat → Int32} {q B1 k S D L : Nat} (hs : sDk kd R d P) (hD : D ≤ 14) (hB1 : B1 + 6000 < 2147483000) : ∀ (z j : Nat) (v : Nat → Int32) (T N : Nat) (I : jx_I), z + j = D → dN I d P u v p q B1 → aSt I (stA d (P 4)) v k T → VI v k T S N → VX v k → N + 3300 * z ≤ B1 → (∀ i, i < D → cmE (I (d + 1 + 2)) (I (d + 1 + 3)) (I (d + 1 + 4)) i c i) → scI d I t L → (∀ z, z < d ∨ d + 344 ≤ z → I z = J0 z) → jx_J E l cX5_run 3 (some .int) RX5 false (jx_rm 8) 0 0 (jx_QR n kd (fun r R' I' => r = rnR (rnS c (z) j v) D ∧ ∃ P' L', sDk kd R' d P' ∧ rFr d R R' ∧ (∀ z, z < d ∨ d + 344 ≤ z → I' z = J0 z) ∧ scI d I' t L' ∧ (match (rnS c (z) j v).1 with | some _ => L' = L ∧ dM I' d P' u p q B1 | none => L' = 0 ∧ ∀ u2, eqR u2 u → dM I' d P' (rnS c (z) j v).2 (kpP p q u2) (kpC q) B1))) 0 0 n kd R (I) 35 [some (.ref d), some (.int (nI D)), some (.int (nI j))] [] := by
  obtain ⟨K0, K6, K7, R0, R1, R2, R4, R5, Rp, hsc, hst, hP6, hinj⟩ := id hs
  have S4 := hs.st (show 4 < 6 from by omega)
  have S5 := hs.st (show 5 < 6 from by omega)
  have K4 := S4.1
  have K5 := S5.1
  intro z
  obtain ⟨SK0, SK1, SK2, SK3, SK4, SR0, SR1, SR2, SR3⟩ := id hsc
  induction z with
  | zero =>
    intro j v T N I hz hd hA hV hX hN hcm hsI hfr
    refine j_iload_n (pc' := 36) dX5_run_35 rfl rfl ?_
    refine j_iload_n (pc' := 37) dX5_run_36 rfl rfl ?_
    first | refine j_icmp_geN' (tgt := 74) (pc' := 40) (by with_reducible rfl) (by with_reducible rfl) (by omega) (by omega) dX5_run_37 rfl (by decide) (fun c37 => ?_) (fun c37 => ?_) | refine j_icmp_ge (tgt := 74) (pc' := 40) dX5_run_37 rfl (by decide) (fun c37 => ?_) (fun c37 => ?_)
    ·
      have e : D = j := by omega
      subst e
      refine j_aload_n (pc' := 75) dX5_run_74 rfl rfl ?_
      refine j_getR (pc' := 78) f_X5_10 (by assumption) (by assumption) dX5_run_75 rfl ?_
      refine j_eqI (cI_eta _ (d + 1)).symm ?_
      refine j_cVi (pc' := 81) m_X5_162 (c_X3_discard hsc) (by assumption) (by decide) rfl rfl rfl ⟨Nat.le_of_ble_eq_true rfl, Nat.le_of_ble_eq_true rfl⟩ ⟨Nat.zero_le _, Nat.zero_le _⟩ (Nat.le_of_ble_eq_true rfl) dX5_run_78 rfl (fun x1 I1 hq => ?_)
      obtain ⟨rfl, rfl⟩ := hq
      refine j_pop (pc' := 82) dX5_run_81 rfl rfl ?_
      refine j_aload_n (pc' := 83) dX5_run_82 rfl rfl ?_
      refine j_iload_n (pc' := 84) dX5_run_83 rfl rfl ?_
      refine j_cViR (pc' := 87) m_X5_41 (c_X5_settle hs (dN.fr hs hd (fun z hz => cI_ne (by omega)))) (by assumption) (by decide) rfl rfl rfl ⟨Nat.le_of_ble_eq_true rfl, Nat.le_of_ble_eq_true rfl⟩ ⟨Nat.zero_le _, Nat.zero_le _⟩ (Nat.le_of_ble_eq_true rfl) dX5_run_84 rfl (fun x1 R1 I1 hq => ?_)
      obtain ⟨rfl, P1, g1, g2, g3, g4, g5⟩ := hq
      refine j_retiR dX5_run_87 rfl (by first | rfl | exact bi_n _) ?_
      have g6 := g5 (Int32.not_le.mpr (ie_n (show D < 2147483648 from by omega)))
      rw [rnS]
      exact ⟨rfl, P1, 0, g1, g3, fun z hz => (g2 z (by omega) (by omega) (by omega)).trans ((cI_ne (by omega)).trans (hfr z hz)), scI.fr (I := cI _ (d + 1) _ _ _ _ _) ⟨by rw [cI_0, pk_us], by rw [cI_1]; exact hsI.2.1, by omega⟩ (fun z a b => g2 z (by omega) (by omega) (by omega)), rfl, g6⟩
    ·
      exact absurd c37 (by omega)
  | succ z ih =>
    intro j v T N I hz hd hA hV hX hN hcm hsI hfr
    refine j_iload_n (pc' := 36) dX5_run_35 rfl rfl ?_
    refine j_iload_n (pc' := 37) dX5_run_36 rfl rfl ?_
    first | refine j_icmp_geN' (tgt := 74) (pc' := 40) (by with_reducible rfl) (by with_reducible rfl) (by omega) (by omega) dX5_run_37 rfl (by decide) (fun c37 => ?_) (fun c37 => ?_) | refine j_icmp_ge (tgt := 74) (pc' := 40) dX5_run_37 rfl (by decide) (fun c37 => ?_) (fun c37 => ?_)
    ·
      exact absurd c37 (by omega)
    ·
      refine j_aload_n (pc' := 41) dX5_run_40 rfl rfl ?_
      refine j_iload_n (pc' := 42) dX5_run_41 rfl rfl ?_
      refine j_cVi (pc' := 45) m_X5_175 (c_X5_carryOut (c := c) hs hA hV (by omega) (hcm j (by omega)) (by omega)) (by assumption) (by decide) rfl rfl rfl ⟨Nat.le_of_ble_eq_true rfl, Nat.le_of_ble_eq_true rfl⟩ ⟨Nat.zero_le _, Nat.zero_le _⟩ (Nat.le_of_ble_eq_true rfl) dX5_run_42 rfl (fun x1 I1 hq => ?_)
      obtain ⟨rfl, T', N', hN1, hN2, h2⟩ := hq
      have f8 := aS.f8 hs (by omega) h2
      have hd2 := hd.act hs h2 (B1 := B1) (by omega) (by omega) (VX.ds hV hX)
      refine j_cSi (pc' := 48) m_X5_108 (c_X5_isError _ _ _ _ _ _ _) rfl rfl ⟨Nat.le_of_ble_eq_true rfl, Nat.le_of_ble_eq_true rfl⟩ ⟨Nat.zero_le _, Nat.zero_le _⟩ (Nat.le_of_ble_eq_true rfl) dX5_run_45 rfl (fun x1 I1 hq => ?_)
      obtain ⟨rfl, rfl⟩ := hq
      first | refine j_if_eqB' (tgt := 68) (pc' := 51) (by with_reducible rfl) dX5_run_48 rfl (by decide) (fun c48 => ?_) (fun c48 => ?_) | refine j_if_eqN' (tgt := 68) (pc' := 51) (by with_reducible rfl) (by omega) dX5_run_48 rfl (by decide) (fun c48 => ?_) (fun c48 => ?_) | refine j_if_eq (tgt := 68) (pc' := 51) dX5_run_48 rfl (by decide) (fun c48 => ?_) (fun c48 => ?_)
      ·
        first | refine j_iincN (pc' := 71) (lv' := [_, _, _]) dX5_run_68 rfl rfl (by decide) rfl ?_ | refine j_iinc (pc' := 71) (lv' := [_, _, _]) dX5_run_68 rfl rfl rfl (by decide) rfl ?_
        refine j_goto (tgt := 35) dX5_run_71 (by decide) ?_
        rw [rnS, if_neg (by rw [dsG_of hV, ie_dsF hV hX, c48]; decide), dsG_of hV]
        exact ih (j + 1) _ T' N' _ (by omega) hd2 h2.1 h2.vi (VX.ds hV hX) (by omega) (fun i hi => by rw [f8 _ (by omega), f8 _ (by omega), f8 _ (by omega)]; exact hcm i hi) (hsI.fr (fun z a b => f8 z (by omega))) (fun z hz => (f8 z (by omega)).trans (hfr z hz))
      ·
        obtain ⟨k9, T9, S9, N9, a9, b9, n9, x9⟩ := hd2.2
        refine j_aload_n (pc' := 52) dX5_run_51 rfl rfl ?_
        refine j_getR (pc' := 55) f_X5_27 (by assumption) (by assumption) dX5_run_52 rfl ?_
        refine j_aload_n (pc' := 56) dX5_run_55 rfl rfl ?_
        refine j_getR (pc' := 59) f_X5_31 (by assumption) (by assumption) dX5_run_56 rfl ?_
        refine j_cVv (pc' := 62) m_X5_178 (c_X4_copyFrom S4 S5 (hs.ne (by omega) (by omega) (by omega)) a9 b9) (by assumption) (by decide) rfl rfl rfl ⟨Nat.le_of_ble_eq_true rfl, Nat.le_of_ble_eq_true rfl⟩ ⟨Nat.zero_le _, Nat.zero_le _⟩ (Nat.le_of_ble_eq_true rfl) dX5_run_59 rfl (fun I1 hq => ?_)
        skip
        refine j_sipush (pc' := 65) (v := -1000) dX5_run_62 rfl rfl ?_
        refine j_iload_n (pc' := 66) dX5_run_65 rfl rfl ?_
        first | refine j_isubN' (pc' := 67) (by with_reducible rfl) (by with_reducible rfl) (by omega) dX5_run_66 rfl ?_ | refine j_isub (pc' := 67) dX5_run_66 rfl ?_
        refine j_retiR dX5_run_67 rfl (by first | rfl | exact bi_n _) ?_
        rw [rnS, if_pos (by rw [dsG_of hV, ie_dsF hV hX]; exact c48)]
        exact ⟨rfl, P, L, hs, rFr.r, fun z hz => (aS.f8 hs (by omega) hq z (by omega)).trans ((f8 z (by omega)).trans (hfr z hz)), (hsI.fr (fun z a b => f8 z (by omega))).fr (fun z a b => aS.f8 hs (by omega) hq z (by omega)), rfl, (hd2.act hs hq n9 (Nat.le_refl _) x9).1⟩
theorem dN.mono {I : jx_I} {d : Nat} {P : Nat → Nat} {u w p : Nat → Int32} {q B B1 : Nat} (h : dN I d P u w p q B) (hB : B ≤ B1) : dN I d P u w p q B1 := ⟨h.1.mono hB, h.2.mono hB⟩
theorem ct_post_R {E : jx_E} {l : Launch} {cd : ByteArray} {nL : Nat} {ret : Option FieldType} {own : String} {Rm : Room} {n : Nat} {kd : jx_K} {R : jx_R} {I : jx_I} {pc : Nat} {lv : List (Option Value)} {st : List Value} {P P' : Int32 → jx_R → jx_I → Prop} (h : ∀ r R' I', P r R' I' → P' r R' I') (k : jx_J E l cd nL ret own false Rm 0 0 (jx_QR n kd P) 0 0 n kd R I pc lv st) : jx_J E l cd nL ret own false Rm 0 0 (jx_QR n kd P') 0 0 n kd R I pc lv st := by
  intro p e s m args below meth c Z X hZ
  exact k p e s m args below meth c Z X (fun v n' kd' R' I' H' locs' pc' ls' hq => hZ v n' kd' R' I' H' locs' pc' ls' (by
    obtain ⟨h1, h2, x, h4, h5⟩ := hq
    exact ⟨h1, h2, x, h4, h x R' I' h5⟩))
set_option maxRecDepth 100000 in
set_option maxHeartbeats 4000000 in
theorem c_X5_run {E : jx_E} {l : Launch} {n : Nat} {kd : jx_K} {R : jx_R} {I : jx_I} {d : Nat} {P : Nat → Nat} {v p : Nat → Int32} {q B k T S N : Nat} {t c : Nat → Int32} {L : Nat} (hs : sDk kd R d P) (h : dM I d P v p q B) (hA : aSt I (stA d (P 4)) v k T) (hV : VI v k T S N) (hN : N ≤ B) (hX : VX v k) (hB : B + 70000 < 2147483000) (hS : scI d I t L) : jx_CiR E l yX5_run cX5_run 3 (some .int) 8 n kd R (I) [.ref d] (fun r R' I' => r = (if (rdS t L 15 0 0 c).1 = true then rnR (rnS (rdS t L 15 0 0 c).2.2.2 (rdS t L 15 0 0 c).2.2.1 0 v) (rdS t L 15 0 0 c).2.2.1 else -100 - nI (rdS t L 15 0 0 c).2.1) ∧ ∃ P' L', sDk kd R' d P' ∧ rFr d R R' ∧ (∀ z, z < d ∨ d + 344 ≤ z → I' z = I z) ∧ scI d I' t L' ∧ (if (rdS t L 15 0 0 c).1 = true then (match (rnS (rdS t L 15 0 0 c).2.2.2 (rdS t L 15 0 0 c).2.2.1 0 v).1 with | some _ => L' = L ∧ dM I' d P' v p q (B + 60000) | none => L' = 0 ∧ ∀ u2, eqR u2 v → dM I' d P' (rnS (rdS t L 15 0 0 c).2.2.2 (rdS t L 15 0 0 c).2.2.1 0 v).2 (kpP p q u2) (kpC q) (B + 60000)) else L' = L ∧ dM I' d P' v p q (B + 60000))) := by
  obtain ⟨K0, K6, K7, R0, R1, R2, R4, R5, Rp, hsc, hst, hP6, hinj⟩ := id hs
  have S4 := hs.st (show 4 < 6 from by omega)
  have S5 := hs.st (show 5 < 6 from by omega)
  have K4 := S4.1
  have K5 := S5.1
  obtain ⟨hS1, hS2, hS3⟩ := id hS
  obtain ⟨SK0, SK1, SK2, SK3, SK4, SR0, SR1, SR2, SR3⟩ := id hsc
  subst hS2
  have hS2 : I (d + 1 + 1) = I (d + 1 + 1) := rfl
  refine jx_CtR.ofJ RX5 [some (.ref d), none, none] (by decide) rfl rfl (Nat.le_of_ble_eq_true rfl) rfl ?_
  refine j_aload_n (pc' := 1) dX5_run_0 rfl rfl ?_
  refine j_getR (pc' := 4) f_X5_10 (by assumption) (by assumption) dX5_run_1 rfl ?_
  refine j_eqI (cI_eta _ (d + 1)).symm ?_
  refine j_cVi (pc' := 7) m_X5_165 (c_X3_readCommands (c := c) hsc hS1 hS3) (by assumption) (by decide) rfl rfl rfl ⟨Nat.le_of_ble_eq_true rfl, Nat.le_of_ble_eq_true rfl⟩ ⟨Nat.zero_le _, Nat.zero_le _⟩ (Nat.le_of_ble_eq_true rfl) dX5_run_4 rfl (fun x1 I1 hq => ?_)
  obtain ⟨rfl, F', w', a', b', rfl, h4, h5, h6, hcm⟩ := hq
  have hok := rdS_ok (t := I (d + 1 + 1)) hS3 15 0 0 c (Nat.zero_le _) (Nat.zero_le _)
  first | refine j_if_neB' (tgt := 21) (pc' := 10) (by with_reducible rfl) dX5_run_7 rfl (by decide) (fun c7 => ?_) (fun c7 => ?_) | refine j_if_neN' (tgt := 21) (pc' := 10) (by with_reducible rfl) (by omega) dX5_run_7 rfl (by decide) (fun c7 => ?_) (fun c7 => ?_) | refine j_if_ne (tgt := 21) (pc' := 10) dX5_run_7 rfl (by decide) (fun c7 => ?_) (fun c7 => ?_)
  ·
    refine j_aload_n (pc' := 22) dX5_run_21 rfl rfl ?_
    refine j_cVv (pc' := 25) m_X5_34 (c_X5_noteBefore hs (h.fr hs (fun z hz => cI_ne (by omega)))) (by assumption) (by decide) rfl rfl rfl ⟨Nat.le_of_ble_eq_true rfl, Nat.le_of_ble_eq_true rfl⟩ ⟨Nat.zero_le _, Nat.zero_le _⟩ (Nat.le_of_ble_eq_true rfl) dX5_run_22 rfl (fun I1 hq => ?_)
    obtain ⟨hb, hf, hz⟩ := hq
    have e1 : ∀ z, d < z → z < d + 6 → I1 z = cI I (d + 1) F' (I (d + 1 + 1)) w' a' b' z := fun z a b => hf z (by omega) (by omega) (by omega)
    have hcmd : I1 (d + 1) 5 = nI (rdS (I (d + 1 + 1)) L 15 0 0 c).2.2.1 := by rw [e1 _ (by omega) (by omega), cI_0]; exact h5
    refine j_aload_n (pc' := 26) dX5_run_25 rfl rfl ?_
    refine j_getR (pc' := 29) f_X5_10 (by assumption) (by assumption) dX5_run_26 rfl ?_
    refine j_getIv (pc' := 32) f_X5_172 (by assumption) (by first | (simp (disch := omega) only [jx_upS, jx_upK, jx_upA, cI_0, h6, hcmd]; rfl) | rfl) dX5_run_29 rfl ?_
    refine j_istore_n (pc' := 33) (lv' := [_, _, _]) dX5_run_32 rfl (by decide) rfl ?_
    refine j_iconst (pc' := 34) (v := nI 0) dX5_run_33 rfl rfl ?_
    refine j_istore_n (pc' := 35) (lv' := [_, _, _]) dX5_run_34 rfl (by decide) rfl ?_
    have hl := lp_X5_run (E := E) (l := l) (n := n) (B1 := B + 60000) (J0 := I1) (c := (rdS (I (d + 1 + 1)) L 15 0 0 c).2.2.2) (L := L) (t := I (d + 1 + 1)) hs hok.2 (by omega) (rdS (I (d + 1 + 1)) L 15 0 0 c).2.2.1 0 v T N I1 rfl (dN.mono hb (by omega)) ((hA.fr hV.k16 (fun z a b => cI_ne (by have := hs.lo (j := 4); omega))).fr hV.k16 hz) hV hX (by omega) (fun i hi => by rw [e1 _ (by omega) (by omega), e1 _ (by omega) (by omega), e1 _ (by omega) (by omega), cI_2, cI_3, cI_4]; exact hcm c7 i hi) ⟨by rw [e1 _ (by omega) (by omega), cI_0]; exact h4, by rw [e1 _ (by omega) (by omega), cI_1], hS3⟩ (fun _ _ => rfl)
    refine ct_post_R (fun r R' I' hq => ?_) hl
    obtain ⟨q1, P2, L2, q2, q3, q4, q5, q6⟩ := hq
    rw [if_pos c7]
    exact ⟨q1, P2, L2, q2, q3, fun z hz => (q4 z hz).trans ((hf z (by omega) (by omega) (by omega)).trans (cI_ne (by omega))), q5, by rw [if_pos c7]; exact q6⟩
  ·
    refine j_bipush (pc' := 12) (v := -100) dX5_run_10 rfl rfl ?_
    refine j_aload_n (pc' := 13) dX5_run_12 rfl rfl ?_
    refine j_getR (pc' := 16) f_X5_10 (by assumption) (by assumption) dX5_run_13 rfl ?_
    refine j_getIv (pc' := 19) f_X5_169 (by assumption) (by first | (simp (disch := omega) only [jx_upS, jx_upK, jx_upA, cI_0, h6, hcmd]; rfl) | rfl) dX5_run_16 rfl ?_
    first | refine j_isubN' (pc' := 20) (by with_reducible rfl) (by with_reducible rfl) (by omega) dX5_run_19 rfl ?_ | refine j_isub (pc' := 20) dX5_run_19 rfl ?_
    refine j_retiR dX5_run_20 rfl (by first | rfl | exact bi_n _) ?_
    rw [if_neg (by rw [c7]; decide)]
    exact ⟨by rw [cI_0, h6], P, L, hs, rFr.r, fun z hz => cI_ne (by omega), ⟨by rw [cI_0]; exact h4, by rw [cI_1], hS3⟩, by rw [if_neg (by rw [c7]; decide)]; exact ⟨rfl, (h.fr hs (fun z hz => cI_ne (by omega))).mono (by omega)⟩⟩

theorem aaF_cg {v o o' : Nat → Int32} : ∀ j, (∀ i, i < j → o i = o' i) → aaF v o j = aaF v o' j := by
  intro j
  induction j with
  | zero => intro _; rfl
  | succ j ih =>
    intro h
    rw [aaF, aaF, ih (fun i hi => h i (by omega)), h j (by omega)]
theorem VX.aa {v o : Nat → Int32} {k : Nat} (hX : VX v k) (h16 : k ≤ 16) : ∀ j, VX (aaF v o j).1 k := by
  intro j
  induction j with
  | zero => exact hX
  | succ j ih =>
    rw [aaF]
    split
    · exact ih.kx h16 KX.ack
    · exact ih
set_option maxRecDepth 100000 in
set_option maxHeartbeats 4000000 in
theorem lp_X5_ackAll {E : jx_E} {l : Launch} {n : Nat} {kd : jx_K} {R : jx_R} {J0 : jx_I} {d : Nat} {P : Nat → Nat} {v u p o : Nat → Int32} {q B1 k T S N0 m : Nat} (hs : sDk kd R d P) (hB1 : B1 + 6000 < 2147483000) (hV0 : VI v k T S N0) (hX : VX v k) (ho : okO o m k) (hm : m ≤ 16) : ∀ (z j N : Nat) (I : jx_I), z + j = m → dN I d P u (aaF v o j).1 p q B1 → aS I I (stA d (P 4)) (aaF v o j).1 k T S N → N + z + 100 ≤ B1 → dFr d J0 I → I (d + 6) = o → (aaF v o j).2 ≤ j → jx_J E l cX5_ackAll 4 (some .int) RX5 false (jx_rm 5) 0 0 (jx_QR n kd (fun r R' I' => r = nI (aaF v o m).2 ∧ ∃ P', sDk kd R' d P' ∧ dFr d J0 I' ∧ rFr d R R' ∧ ∀ u2, eqR u2 u → dM I' d P' (aaF v o m).1 (kpP p q u2) (kpC q) B1)) 0 0 n kd R (I) 20 [some (.ref d), some (.int (nI m)), some (.int (nI (aaF v o j).2)), some (.int (nI j))] [] := by
  obtain ⟨K0, K6, K7, R0, R1, R2, R4, R5, Rp, hsc, hst, hP6, hinj⟩ := id hs
  have S4 := hs.st (show 4 < 6 from by omega)
  have S5 := hs.st (show 5 < 6 from by omega)
  have K4 := S4.1
  have K5 := S5.1
  intro z
  induction z with
  | zero =>
    intro j N I hz hd h0 hN hfr hoK hle
    refine j_iload_n (pc' := 21) dX5_ackAll_20 rfl rfl ?_
    refine j_iload_n (pc' := 22) dX5_ackAll_21 rfl rfl ?_
    first | refine j_icmp_geN' (tgt := 53) (pc' := 25) (by with_reducible rfl) (by with_reducible rfl) (by omega) (by omega) dX5_ackAll_22 rfl (by decide) (fun c22 => ?_) (fun c22 => ?_) | refine j_icmp_ge (tgt := 53) (pc' := 25) dX5_ackAll_22 rfl (by decide) (fun c22 => ?_) (fun c22 => ?_)
    ·
      have e : m = j := by omega
      subst e
      refine j_aload_n (pc' := 54) dX5_ackAll_53 rfl rfl ?_
      refine j_iload_n (pc' := 55) dX5_ackAll_54 rfl rfl ?_
      refine j_cViR (pc' := 58) m_X5_41 (c_X5_settle hs hd) (by assumption) (by decide) rfl rfl rfl ⟨Nat.le_of_ble_eq_true rfl, Nat.le_of_ble_eq_true rfl⟩ ⟨Nat.zero_le _, Nat.zero_le _⟩ (Nat.le_of_ble_eq_true rfl) dX5_ackAll_55 rfl (fun x1 R1 I1 hq => ?_)
      obtain ⟨rfl, P1, g1, g2, g3, g4, g5⟩ := hq
      refine j_retiR dX5_ackAll_58 rfl (by first | rfl | exact bi_n _) ?_
      exact ⟨rfl, P1, g1, hfr.t g2, g3, g5 (Int32.not_le.mpr (ie_n (by omega)))⟩
    ·
      exact absurd c22 (by omega)
  | succ z ih =>
    intro j N I hz hd h0 hN hfr hoK hle
    refine j_iload_n (pc' := 21) dX5_ackAll_20 rfl rfl ?_
    refine j_iload_n (pc' := 22) dX5_ackAll_21 rfl rfl ?_
    first | refine j_icmp_geN' (tgt := 53) (pc' := 25) (by with_reducible rfl) (by with_reducible rfl) (by omega) (by omega) dX5_ackAll_22 rfl (by decide) (fun c22 => ?_) (fun c22 => ?_) | refine j_icmp_ge (tgt := 53) (pc' := 25) dX5_ackAll_22 rfl (by decide) (fun c22 => ?_) (fun c22 => ?_)
    ·
      exact absurd c22 (by omega)
    ·
      obtain ⟨i, hi, hoi⟩ := ho j (by omega)
      have hK := hV0.k16
      have hv0 := h0.vi
      have hnn : (aaF v o (j + 1)) = if (aaF v o j).1 (176 + 56 * i + 10) = 0 then ((fAck (aaF v o j).1 (nI i)).2, (aaF v o j).2 + 1) else aaF v o j := by rw [aaF, hoi, nI_clamp (by omega)]
      obtain ⟨ab, hab⟩ := hv0.ak hi
      obtain ⟨ta, hta, eta⟩ := ack_n hv0 hi
      have hf1 : fAck (aaF v o j).1 (nI i) = if (aaF v o j).1 (176 + 56 * i + 10) = nI 1 then (-20002, (aaF v o j).1) else ((aaF v o j).1 1 - (aaF v o j).1 (176 + 56 * i + 12), (fAck (aaF v o j).1 (nI i)).2) := by
        unfold fAck
        rw [if_pos (okP_of hv0.z hK hi), nI_clamp (by omega)]
        split <;> rfl
      refine j_aload_n (pc' := 26) dX5_ackAll_25 rfl rfl ?_
      refine j_getR (pc' := 29) f_X5_27 (by assumption) (by assumption) dX5_ackAll_26 rfl ?_
      refine j_aload_n (pc' := 30) dX5_ackAll_29 rfl rfl ?_
      refine j_getR (pc' := 33) f_X5_16 (by assumption) (by assumption) dX5_ackAll_30 rfl ?_
      refine j_iload_n (pc' := 34) dX5_ackAll_33 rfl rfl ?_
      refine j_ialdv (pc' := 35) (by assumption) rfl (by omega) (by omega) (by first | (simp (disch := omega) only [jx_upS, jx_upK, jx_upA, hoK, hoi]; rfl) | rfl) dX5_ackAll_34 rfl ?_
      refine j_cVi (pc' := 38) m_X5_101 (c_X4_acknowledge S4 h0 (by omega)) (by assumption) (by decide) rfl rfl rfl ⟨Nat.le_of_ble_eq_true rfl, Nat.le_of_ble_eq_true rfl⟩ ⟨Nat.zero_le _, Nat.zero_le _⟩ (Nat.le_of_ble_eq_true rfl) dX5_ackAll_35 rfl (fun x1 I1 hq => ?_)
      obtain ⟨rfl, N', hN1, hN2, h2⟩ := hq
      have f8 := aS.f8 hs (by omega) h2
      have hd2 := hd.act hs h2 (B1 := B1) (by omega) (by omega) ((hX.aa hK _).kx hK KX.ack)
      refine j_cSi (pc' := 41) m_X5_108 (c_X5_isError _ _ _ _ _ _ _) rfl rfl ⟨Nat.le_of_ble_eq_true rfl, Nat.le_of_ble_eq_true rfl⟩ ⟨Nat.zero_le _, Nat.zero_le _⟩ (Nat.le_of_ble_eq_true rfl) dX5_ackAll_38 rfl (fun x1 I1 hq => ?_)
      obtain ⟨rfl, rfl⟩ := hq
      first | refine j_if_neB' (tgt := 47) (pc' := 44) (by with_reducible rfl) dX5_ackAll_41 rfl (by decide) (fun c41 => ?_) (fun c41 => ?_) | refine j_if_neN' (tgt := 47) (pc' := 44) (by with_reducible rfl) (by omega) dX5_ackAll_41 rfl (by decide) (fun c41 => ?_) (fun c41 => ?_) | refine j_if_ne (tgt := 47) (pc' := 44) dX5_ackAll_41 rfl (by decide) (fun c41 => ?_) (fun c41 => ?_)
      ·
        skip
        first | refine j_iincN (pc' := 50) (lv' := [_, _, _, _]) dX5_ackAll_47 rfl rfl (by decide) rfl ?_ | refine j_iinc (pc' := 50) (lv' := [_, _, _, _]) dX5_ackAll_47 rfl rfl rfl (by decide) rfl ?_
        refine j_goto (tgt := 20) dX5_ackAll_50 (by decide) ?_
        have hb1 : ab = true := by
          cases ab with
          | true => rfl
          | false =>
            rw [hf1, if_neg (by rw [hab]; decide), eta] at c41
            exact absurd (of_decide_eq_true c41) (Int32.not_le.mpr (ie_n (by omega)))
        have hf2 : (fAck (aaF v o j).1 (nI i)).2 = (aaF v o j).1 := by rw [hf1, if_pos (by rw [hab, hb1]; rfl)]
        rw [if_neg (by rw [hab, hb1]; decide)] at hnn
        have e2 := ih (j + 1) N' _ (by omega) (by rw [hnn, ← hf2]; exact hd2) (by rw [hnn, ← hf2]; exact ⟨h2.1, h2.vi, fun _ _ => rfl⟩) (by omega) (hfr.t (fun z a b c => f8 z (by omega))) ((f8 _ (by omega)).trans hoK) (by rw [hnn]; omega)
        rw [hnn] at e2
        exact e2
      ·
        first | refine j_iincN (pc' := 47) (lv' := [_, _, _, _]) dX5_ackAll_44 rfl rfl (by decide) rfl ?_ | refine j_iinc (pc' := 47) (lv' := [_, _, _, _]) dX5_ackAll_44 rfl rfl rfl (by decide) rfl ?_
        first | refine j_iincN (pc' := 50) (lv' := [_, _, _, _]) dX5_ackAll_47 rfl rfl (by decide) rfl ?_ | refine j_iinc (pc' := 50) (lv' := [_, _, _, _]) dX5_ackAll_47 rfl rfl rfl (by decide) rfl ?_
        refine j_goto (tgt := 20) dX5_ackAll_50 (by decide) ?_
        have hb1 : ab = false := by
          cases ab with
          | false => rfl
          | true =>
            rw [hf1, if_pos (by rw [hab]; rfl)] at c41
            exact absurd c41 (show ¬ (decide ((-20002 : Int32) ≤ -20001) = false) from by decide)
        rw [if_pos (by rw [hab, hb1]; rfl)] at hnn
        have e2 := ih (j + 1) N' _ (by omega) (by rw [hnn]; exact hd2) (by rw [hnn]; exact ⟨h2.1, h2.vi, fun _ _ => rfl⟩) (by omega) (hfr.t (fun z a b c => f8 z (by omega))) ((f8 _ (by omega)).trans hoK) (by rw [hnn]; dsimp only; omega)
        rw [hnn] at e2
        exact e2
set_option maxRecDepth 100000 in
set_option maxHeartbeats 4000000 in
theorem c_X5_ackAll {E : jx_E} {l : Launch} {n : Nat} {kd : jx_K} {R : jx_R} {I : jx_I} {d : Nat} {P : Nat → Nat} {v p : Nat → Int32} {q B k T S N : Nat} {o : Nat → Int32} (hs : sDk kd R d P) (h : dM I d P v p q B) (hA : aSt I (stA d (P 4)) v k T) (hV : VI v k T S N) (hN : N ≤ B) (hX : VX v k) (hB : B + 70000 < 2147483000) : jx_CiR E l yX5_ackAll cX5_ackAll 4 (some .int) 5 n kd R (I) [.ref d] (fun r R' I' => r = nI (aaF v (lsF v o k).1 (lsF v o k).2).2 ∧ ∃ P', sDk kd R' d P' ∧ dFr d I I' ∧ rFr d R R' ∧ ∀ u2, eqR u2 v → dM I' d P' (aaF v (lsF v o k).1 (lsF v o k).2).1 (kpP p q u2) (kpC q) (B + 60000)) := by
  obtain ⟨K0, K6, K7, R0, R1, R2, R4, R5, Rp, hsc, hst, hP6, hinj⟩ := id hs
  have S4 := hs.st (show 4 < 6 from by omega)
  have S5 := hs.st (show 5 < 6 from by omega)
  have K4 := S4.1
  have K5 := S5.1
  obtain ⟨rk, hrk⟩ := hV.r
  refine jx_CtR.ofJ RX5 [some (.ref d), none, none, none] (by decide) rfl rfl (Nat.le_of_ble_eq_true rfl) rfl ?_
  refine j_aload_n (pc' := 1) dX5_ackAll_0 rfl rfl ?_
  refine j_cVv (pc' := 4) m_X5_34 (c_X5_noteBefore hs h) (by assumption) (by decide) rfl rfl rfl ⟨Nat.le_of_ble_eq_true rfl, Nat.le_of_ble_eq_true rfl⟩ ⟨Nat.zero_le _, Nat.zero_le _⟩ (Nat.le_of_ble_eq_true rfl) dX5_ackAll_1 rfl (fun I1 hq => ?_)
  obtain ⟨hb, hf, hz⟩ := hq
  refine j_aload_n (pc' := 5) dX5_ackAll_4 rfl rfl ?_
  refine j_getR (pc' := 8) f_X5_27 (by assumption) (by assumption) dX5_ackAll_5 rfl ?_
  refine j_aload_n (pc' := 9) dX5_ackAll_8 rfl rfl ?_
  refine j_getR (pc' := 12) f_X5_16 (by assumption) (by assumption) dX5_ackAll_9 rfl ?_
  refine j_cVi (pc' := 15) m_X5_104 (c_X4_fillList S4 (hA.fr hV.k16 hz) hV hrk K6 (by have := hs.lo (j := 4); omega)) (by assumption) (by decide) rfl rfl rfl ⟨Nat.le_of_ble_eq_true rfl, Nat.le_of_ble_eq_true rfl⟩ ⟨Nat.zero_le _, Nat.zero_le _⟩ (Nat.le_of_ble_eq_true rfl) dX5_ackAll_12 rfl (fun x1 I1 hq => ?_)
  obtain ⟨rfl, rfl⟩ := hq
  have hls := (lsF_ok (v := v) (o := I1 (d + 6)) k)
  refine j_istore_n (pc' := 16) (lv' := [_, _, _, _]) dX5_ackAll_15 rfl (by decide) rfl ?_
  refine j_iconst (pc' := 17) (v := nI 0) dX5_ackAll_16 rfl rfl ?_
  refine j_istore_n (pc' := 18) (lv' := [_, _, _, _]) dX5_ackAll_17 rfl (by decide) rfl ?_
  refine j_iconst (pc' := 19) (v := nI 0) dX5_ackAll_18 rfl rfl ?_
  refine j_istore_n (pc' := 20) (lv' := [_, _, _, _]) dX5_ackAll_19 rfl (by decide) rfl ?_
  have hcg := lsF_cg (v := v) (o := I1 (d + 6)) (o' := o) k
  have hl := lp_X5_ackAll (E := E) (l := l) (n := n) (B1 := B + 60000) (J0 := I1) (o := (lsF v (I1 (d + 6)) k).1) hs (by omega) hV hX hls.2 (by have := hV.k16; omega) (lsF v (I1 (d + 6)) k).2 0 N (va_up I1 (d + 6) (lsF v (I1 (d + 6)) k).1) rfl ((hb.mono (by omega)).fr hs (fun z hz2 => va_up_ne _ _ (by omega))) ⟨(hA.fr hV.k16 hz).fr hV.k16 (fun z a b => va_up_ne _ _ (by have := hs.lo (j := 4); omega)), hV, fun _ _ => rfl⟩ (by have := hV.k16; omega) (fun z a b c => va_up_ne _ _ b) (va_up_self _ _ _) (Nat.le_refl _)
  refine ct_post_R (fun r R' I' hq => ?_) hl
  rw [← hcg.1, ← aaF_cg _ hcg.2]
  obtain ⟨q1, P2, q2, q3, q4, q5⟩ := hq
  exact ⟨q1, P2, q2, hf.t q3, q4, q5⟩

