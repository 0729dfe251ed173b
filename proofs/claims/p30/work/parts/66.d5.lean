/-! ===== errors: what the class takes for one is what the reference takes for one ===== -/
theorem ie_of {r : Int32} (h : r = -20001 ∨ r = -20002 ∨ -20001 < r) : isE r = decide (r ≤ -20001) := by
  rcases h with rfl | rfl | h
  · decide
  · decide
  · have h1 : isE r = false := decide_eq_false (fun z => by rcases z with rfl | rfl <;> exact absurd h (by decide))
    have h2 : decide (r ≤ -20001) = false := decide_eq_false (Int32.not_le.mpr h)
    rw [h1, h2]
theorem ie_n {a : Nat} (h : a < 2147483648) : (-20001 : Int32) < nI a := by
  have h1 : ¬ nI a < 0 := nI_pos h
  have e1 : (-20001 : Int32).toInt = -20001 := rfl
  have e2 : (0 : Int32).toInt = 0 := rfl
  simp only [Int32.lt_iff_toInt_lt] at *
  omega
theorem ie_okV {x : Int32} (h : okV x = true) : (-20001 : Int32) < x := by
  have h1 := (of_decide_eq_true h).1
  have e1 : (-20001 : Int32).toInt = -20001 := rfl
  have e2 : (-10000 : Int32).toInt = -10000 := rfl
  simp only [Int32.lt_iff_toInt_lt, Int32.le_iff_toInt_le] at *
  omega
theorem ie_val {v : Nat → Int32} {k T S N : Nat} {x y : Int32} (hV : VI v k T S N) (hX : VX v k) : isE (fVal v x y).1 = decide ((fVal v x y).1 ≤ -20001) := by
  refine ie_of ?_
  unfold fVal
  split
  · rename_i h
    split
    · obtain ⟨i, hi, rfl⟩ := okP_nat hV.z hV.k16 h
      have := hV.k16
      rw [nI_clamp (by omega)]
      exact Or.inr (Or.inr (ie_okV (hX.1 i hi)))
    · exact Or.inl rfl
  · exact Or.inl rfl
theorem ie_mod {v : Nat → Int32} {k T S N : Nat} {x : Int32} (hV : VI v k T S N) : isE (fMod v x).1 = decide ((fMod v x).1 ≤ -20001) := by
  refine ie_of ?_
  unfold fMod
  split
  · obtain ⟨q, h1, h2⟩ := hV.m
    dsimp only
    rw [h2]
    exact Or.inr (Or.inr (ie_n (by omega)))
  · exact Or.inl rfl
theorem ack_n {v : Nat → Int32} {k T S N i : Nat} (hV : VI v k T S N) (hi : i < k) : ∃ a, a ≤ 10000 ∧ v 1 - v (176 + 56 * i + 12) = nI a := by
  obtain ⟨l, h1, h2⟩ := hV.la hi
  have := hV.tl
  exact ⟨T - l, by omega, by rw [h2, hV.t, pk_sub h1]⟩
theorem ie_ack {v : Nat → Int32} {k T S N : Nat} {x : Int32} (hV : VI v k T S N) : isE (fAck v x).1 = decide ((fAck v x).1 ≤ -20001) := by
  refine ie_of ?_
  unfold fAck
  split
  · rename_i h
    split
    · exact Or.inr (Or.inl rfl)
    · obtain ⟨i, hi, rfl⟩ := okP_nat hV.z hV.k16 h
      have := hV.k16
      obtain ⟨a, ha, e⟩ := ack_n hV hi
      dsimp only
      rw [nI_clamp (by omega), e]
      exact Or.inr (Or.inr (ie_n (by omega)))
  · exact Or.inl rfl
theorem ie_shv {v : Nat → Int32} {k T S N : Nat} {x y : Int32} (hV : VI v k T S N) : isE (fShv v x y).1 = decide ((fShv v x y).1 ≤ -20001) := by
  refine ie_of ?_
  unfold fShv
  split
  · split
    · rename_i h
      split
      · exact Or.inr (Or.inl rfl)
      · obtain ⟨j, h1, h2, rfl⟩ := in_nat h (by omega) (by omega)
        have := hV.tl
        dsimp only
        rw [hV.t, nI_add]
        exact Or.inr (Or.inr (ie_n (by omega)))
    · exact Or.inl rfl
  · exact Or.inl rfl
theorem ie_tks {v : Nat → Int32} {k T S : Nat} {x : Int32} : isE (fTks v k T S x).1 = decide ((fTks v k T S x).1 ≤ -20001) := by
  refine ie_of ?_
  unfold fTks
  split
  · split
    · exact Or.inr (Or.inr (ie_n (by omega)))
    · exact Or.inr (Or.inl rfl)
  · exact Or.inl rfl
theorem aS.f8 {kd : jx_K} {R : jx_R} {d : Nat} {P : Nat → Nat} {I I1 : jx_I} {w : Nat → Int32} {j k T S N : Nat} (hs : sDk kd R d P) (hj : j < 6) (h2 : aS I I1 (stA d (P j)) w k T S N) : ∀ z, z < d + 8 ∨ d + 344 ≤ z → I1 z = I z := fun z hz => h2.fr z (by have := hs.lo (j := j); have := hs.hi hj; omega)
theorem scI.fr {d : Nat} {I I1 : jx_I} {t : Nat → Int32} {L : Nat} (h : scI d I t L) (e : ∀ z, d < z → z < d + 6 → I1 z = I z) : scI d I1 t L := by
  unfold scI at *
  rw [e _ (by omega) (by omega), e _ (by omega) (by omega)]
  exact h
theorem dN.fr {kd : jx_K} {R : jx_R} {d : Nat} {P : Nat → Nat} {I I1 : jx_I} {u w p : Nat → Int32} {q B : Nat} (hs : sDk kd R d P) (h : dN I d P u w p q B) (e : ∀ z, z = d ∨ d + 8 ≤ z → I1 z = I z) : dN I1 d P u w p q B := by
  obtain ⟨⟨h3, hq, h4, hp⟩, h5⟩ := h
  have fr : ∀ i z, stA d (P i) ≤ z → z < stA d (P i) + 56 → I1 z = I z := fun i z a b => e z (by have := hs.lo (j := i); omega)
  exact ⟨⟨by rw [e d (Or.inl rfl)]; exact h3, hq, h4.fr (fr 4), fun j hj => (hp j hj).fr (fr j)⟩, h5.fr (fr 5)⟩
theorem dM.fr {kd : jx_K} {R : jx_R} {d : Nat} {P : Nat → Nat} {I I1 : jx_I} {w p : Nat → Int32} {q B : Nat} (hs : sDk kd R d P) (h : dM I d P w p q B) (e : ∀ z, z = d ∨ d + 8 ≤ z → I1 z = I z) : dM I1 d P w p q B := by
  obtain ⟨h3, hq, h4, hp⟩ := h
  have fr : ∀ i z, stA d (P i) ≤ z → z < stA d (P i) + 56 → I1 z = I z := fun i z a b => e z (by have := hs.lo (j := i); omega)
  exact ⟨by rw [e d (Or.inl rfl)]; exact h3, hq, h4.fr (fr 4), fun j hj => (hp j hj).fr (fr j)⟩
theorem dN.mono {I : jx_I} {d : Nat} {P : Nat → Nat} {u w p : Nat → Int32} {q B B1 : Nat} (h : dN I d P u w p q B) (hB : B ≤ B1) : dN I d P u w p q B1 := ⟨h.1.mono hB, h.2.mono hB⟩
theorem ct_post_R {E : jx_E} {l : Launch} {cd : ByteArray} {nL : Nat} {ret : Option FieldType} {own : String} {Rm : Room} {n : Nat} {kd : jx_K} {R : jx_R} {I : jx_I} {pc : Nat} {lv : List (Option Value)} {st : List Value} {P P' : Int32 → jx_R → jx_I → Prop} (h : ∀ r R' I', P r R' I' → P' r R' I') (k : jx_J E l cd nL ret own false Rm 0 0 (jx_QR n kd P) 0 0 n kd R I pc lv st) : jx_J E l cd nL ret own false Rm 0 0 (jx_QR n kd P') 0 0 n kd R I pc lv st := by
  intro p e s m args below meth c Z X hZ
  exact k p e s m args below meth c Z X (fun v n' kd' R' I' H' locs' pc' ls' hq => hZ v n' kd' R' I' H' locs' pc' ls' (by
    obtain ⟨h1, h2, x, h4, h5⟩ := hq
    exact ⟨h1, h2, x, h4, h x R' I' h5⟩))
theorem aaF_cg {v o o' : Nat → Int32} : ∀ j, (∀ i, i < j → o i = o' i) → aaF v o j = aaF v o' j := by
  intro j
  induction j with
  | zero => intro _; rfl
  | succ j ih =>
    intro h
    rw [aaF, aaF, ih (fun i hi => h i (by omega)), h j (by omega)]
theorem VX.aa {v o : Nat → Int32} {k : Nat} (hX : VX v k) (h16 : k ≤ 16) : ∀ j, VX (aaF v o j).1 k := by
  intro j
  induction j with
  | zero => exact hX
  | succ j ih =>
    rw [aaF]
    split
    · exact ih.kx h16 KX.ack
    · exact ih
set_option maxRecDepth 100000 in
set_option maxHeartbeats 4000000 in
theorem lp_X5_ackAll {E : jx_E} {l : Launch} {n : Nat} {kd : jx_K} {R : jx_R} {J0 : jx_I} {d : Nat} {P : Nat → Nat} {v u p o : Nat → Int32} {q B1 k T S N0 m : Nat} (hs : sDk kd R d P) (hB1 : B1 + 6000 < 2147483000) (hV0 : VI v k T S N0) (hX : VX v k) (ho : okO o m k) (hm : m ≤ 16) : ∀ (z j N : Nat) (I : jx_I), z + j = m → dN I d P u (aaF v o j).1 p q B1 → aS I I (stA d (P 4)) (aaF v o j).1 k T S N → N + z + 100 ≤ B1 → dFr d J0 I → I (d + 6) = o → (aaF v o j).2 ≤ j → jx_J E l cX5_ackAll 4 (some .int) RX5 false (jx_rm 5) 0 0 (jx_QR n kd (fun r R' I' => r = nI (aaF v o m).2 ∧ ∃ P', sDk kd R' d P' ∧ dFr d J0 I' ∧ rFr d R R' ∧ ∀ u2, eqR u2 u → dM I' d P' (aaF v o m).1 (kpP p q u2) (kpC q) B1)) 0 0 n kd R (I) 20 [some (.ref d), some (.int (nI m)), some (.int (nI (aaF v o j).2)), some (.int (nI j))] [] := by
  obtain ⟨K0, K6, K7, R0, R1, R2, R4, R5, Rp, hsc, hst, hP6, hinj⟩ := id hs
  have S4 := hs.st (show 4 < 6 from by omega)
  have S5 := hs.st (show 5 < 6 from by omega)
  have K4 := S4.1
  have K5 := S5.1
  intro z
  induction z with
  | zero =>
    intro j N I hz hd h0 hN hfr hoK hle
    refine j_iload_n (pc' := 21) dX5_ackAll_20 rfl rfl ?_
    refine j_iload_n (pc' := 22) dX5_ackAll_21 rfl rfl ?_
    first | refine j_icmp_geN' (tgt := 53) (pc' := 25) (by with_reducible rfl) (by with_reducible rfl) (by omega) (by omega) dX5_ackAll_22 rfl (by decide) (fun c22 => ?_) (fun c22 => ?_) | refine j_icmp_ge (tgt := 53) (pc' := 25) dX5_ackAll_22 rfl (by decide) (fun c22 => ?_) (fun c22 => ?_)
    ·
      have e : m = j := by omega
      subst e
      refine j_aload_n (pc' := 54) dX5_ackAll_53 rfl rfl ?_
      refine j_iload_n (pc' := 55) dX5_ackAll_54 rfl rfl ?_
      refine j_cViR (pc' := 58) m_X5_41 (c_X5_settle hs hd) (by assumption) (by decide) rfl rfl rfl ⟨Nat.le_of_ble_eq_true rfl, Nat.le_of_ble_eq_true rfl⟩ ⟨Nat.zero_le _, Nat.zero_le _⟩ (Nat.le_of_ble_eq_true rfl) dX5_ackAll_55 rfl (fun x1 R1 I1 hq => ?_)
      obtain ⟨rfl, P1, g1, g2, g3, g4, g5⟩ := hq
      refine j_retiR dX5_ackAll_58 rfl (by first | rfl | exact bi_n _) ?_
      exact ⟨rfl, P1, g1, hfr.t g2, g3, g5 (Int32.not_le.mpr (ie_n (by omega)))⟩
    ·
      exact absurd c22 (by omega)
  | succ z ih =>
    intro j N I hz hd h0 hN hfr hoK hle
    refine j_iload_n (pc' := 21) dX5_ackAll_20 rfl rfl ?_
    refine j_iload_n (pc' := 22) dX5_ackAll_21 rfl rfl ?_
    first | refine j_icmp_geN' (tgt := 53) (pc' := 25) (by with_reducible rfl) (by with_reducible rfl) (by omega) (by omega) dX5_ackAll_22 rfl (by decide) (fun c22 => ?_) (fun c22 => ?_) | refine j_icmp_ge (tgt := 53) (pc' := 25) dX5_ackAll_22 rfl (by decide) (fun c22 => ?_) (fun c22 => ?_)
    ·
      exact absurd c22 (by omega)
    ·
      obtain ⟨i, hi, hoi⟩ := ho j (by omega)
      have hK := hV0.k16
      have hv0 := h0.vi
      have hnn : (aaF v o (j + 1)) = if (aaF v o j).1 (176 + 56 * i + 10) = 0 then ((fAck (aaF v o j).1 (nI i)).2, (aaF v o j).2 + 1) else aaF v o j := by rw [aaF, hoi, nI_clamp (by omega)]
      obtain ⟨ab, hab⟩ := hv0.ak hi
      obtain ⟨ta, hta, eta⟩ := ack_n hv0 hi
      have hf1 : fAck (aaF v o j).1 (nI i) = if (aaF v o j).1 (176 + 56 * i + 10) = nI 1 then (-20002, (aaF v o j).1) else ((aaF v o j).1 1 - (aaF v o j).1 (176 + 56 * i + 12), (fAck (aaF v o j).1 (nI i)).2) := by
        unfold fAck
        rw [if_pos (okP_of hv0.z hK hi), nI_clamp (by omega)]
        split <;> rfl
      refine j_aload_n (pc' := 26) dX5_ackAll_25 rfl rfl ?_
      refine j_getR (pc' := 29) f_X5_27 (by assumption) (by assumption) dX5_ackAll_26 rfl ?_
      refine j_aload_n (pc' := 30) dX5_ackAll_29 rfl rfl ?_
      refine j_getR (pc' := 33) f_X5_16 (by assumption) (by assumption) dX5_ackAll_30 rfl ?_
      refine j_iload_n (pc' := 34) dX5_ackAll_33 rfl rfl ?_
      refine j_ialdv (pc' := 35) (by assumption) rfl (by omega) (by omega) (by first | (simp (disch := omega) only [jx_upS, jx_upK, jx_upA, hoK, hoi]; rfl) | rfl) dX5_ackAll_34 rfl ?_
      refine j_cVi (pc' := 38) m_X5_101 (c_X4_acknowledge S4 h0 (by omega)) (by assumption) (by decide) rfl rfl rfl ⟨Nat.le_of_ble_eq_true rfl, Nat.le_of_ble_eq_true rfl⟩ ⟨Nat.zero_le _, Nat.zero_le _⟩ (Nat.le_of_ble_eq_true rfl) dX5_ackAll_35 rfl (fun x1 I1 hq => ?_)
      obtain ⟨rfl, N', hN1, hN2, h2⟩ := hq
      have f8 := aS.f8 hs (by omega) h2
      have hd2 := hd.act hs h2 (B1 := B1) (by omega) (by omega) ((hX.aa hK _).kx hK KX.ack)
      refine j_cSi (pc' := 41) m_X5_108 (c_X5_isError _ _ _ _ _ _ _) rfl rfl ⟨Nat.le_of_ble_eq_true rfl, Nat.le_of_ble_eq_true rfl⟩ ⟨Nat.zero_le _, Nat.zero_le _⟩ (Nat.le_of_ble_eq_true rfl) dX5_ackAll_38 rfl (fun x1 I1 hq => ?_)
      obtain ⟨rfl, rfl⟩ := hq
      first | refine j_if_neB' (tgt := 47) (pc' := 44) (by with_reducible rfl) dX5_ackAll_41 rfl (by decide) (fun c41 => ?_) (fun c41 => ?_) | refine j_if_neN' (tgt := 47) (pc' := 44) (by with_reducible rfl) (by omega) dX5_ackAll_41 rfl (by decide) (fun c41 => ?_) (fun c41 => ?_) | refine j_if_ne (tgt := 47) (pc' := 44) dX5_ackAll_41 rfl (by decide) (fun c41 => ?_) (fun c41 => ?_)
      ·
        skip
        first | refine j_iincN (pc' := 50) (lv' := [_, _, _, _]) dX5_ackAll_47 rfl rfl (by decide) rfl ?_ | refine j_iinc (pc' := 50) (lv' := [_, _, _, _]) dX5_ackAll_47 rfl rfl rfl (by decide) rfl ?_
        refine j_goto (tgt := 20) dX5_ackAll_50 (by decide) ?_
        have hb1 : ab = true := by
          cases ab with
          | true => rfl
          | false =>
            rw [hf1, if_neg (by rw [hab]; decide), eta] at c41
            exact absurd (of_decide_eq_true c41) (Int32.not_le.mpr (ie_n (by omega)))
        have hf2 : (fAck (aaF v o j).1 (nI i)).2 = (aaF v o j).1 := by rw [hf1, if_pos (by rw [hab, hb1]; rfl)]
        rw [if_neg (by rw [hab, hb1]; decide)] at hnn
        have e2 := ih (j + 1) N' _ (by omega) (by rw [hnn, ← hf2]; exact hd2) (by rw [hnn, ← hf2]; exact ⟨h2.1, h2.vi, fun _ _ => rfl⟩) (by omega) (hfr.t (fun z a b c => f8 z (by omega))) ((f8 _ (by omega)).trans hoK) (by rw [hnn]; omega)
        rw [hnn] at e2
        exact e2
      ·
        first | refine j_iincN (pc' := 47) (lv' := [_, _, _, _]) dX5_ackAll_44 rfl rfl (by decide) rfl ?_ | refine j_iinc (pc' := 47) (lv' := [_, _, _, _]) dX5_ackAll_44 rfl rfl rfl (by decide) rfl ?_
        first | refine j_iincN (pc' := 50) (lv' := [_, _, _, _]) dX5_ackAll_47 rfl rfl (by decide) rfl ?_ | refine j_iinc (pc' := 50) (lv' := [_, _, _, _]) dX5_ackAll_47 rfl rfl rfl (by decide) rfl ?_
        refine j_goto (tgt := 20) dX5_ackAll_50 (by decide) ?_
        have hb1 : ab = false := by
          cases ab with
          | false => rfl
          | true =>
            rw [hf1, if_pos (by rw [hab]; rfl)] at c41
            exact absurd c41 (show ¬ (decide ((-20002 : Int32) ≤ -20001) = false) from by decide)
        rw [if_pos (by rw [hab, hb1]; rfl)] at hnn
        have e2 := ih (j + 1) N' _ (by omega) (by rw [hnn]; exact hd2) (by rw [hnn]; exact ⟨h2.1, h2.vi, fun _ _ => rfl⟩) (by omega) (hfr.t (fun z a b c => f8 z (by omega))) ((f8 _ (by omega)).trans hoK) (by rw [hnn]; dsimp only; omega)
        rw [hnn] at e2
        exact e2
set_option maxRecDepth 100000 in
set_option maxHeartbeats 4000000 in
theorem c_X5_ackAll {E : jx_E} {l : Launch} {n : Nat} {kd : jx_K} {R : jx_R} {I : jx_I} {d : Nat} {P : Nat → Nat} {v p : Nat → Int32} {q B k T S N : Nat} {o : Nat → Int32} (hs : sDk kd R d P) (h : dM I d P v p q B) (hA : aSt I (stA d (P 4)) v k T) (hV : VI v k T S N) (hN : N ≤ B) (hX : VX v k) (hB : B + 70000 < 2147483000) : jx_CiR E l yX5_ackAll cX5_ackAll 4 (some .int) 5 n kd R (I) [.ref d] (fun r R' I' => r = nI (aaF v (lsF v o k).1 (lsF v o k).2).2 ∧ ∃ P', sDk kd R' d P' ∧ dFr d I I' ∧ rFr d R R' ∧ ∀ u2, eqR u2 v → dM I' d P' (aaF v (lsF v o k).1 (lsF v o k).2).1 (kpP p q u2) (kpC q) (B + 60000)) := by
  obtain ⟨K0, K6, K7, R0, R1, R2, R4, R5, Rp, hsc, hst, hP6, hinj⟩ := id hs
  have S4 := hs.st (show 4 < 6 from by omega)
  have S5 := hs.st (show 5 < 6 from by omega)
  have K4 := S4.1
  have K5 := S5.1
  obtain ⟨rk, hrk⟩ := hV.r
  refine jx_CtR.ofJ RX5 [some (.ref d), none, none, none] (by decide) rfl rfl (Nat.le_of_ble_eq_true rfl) rfl ?_
  refine j_aload_n (pc' := 1) dX5_ackAll_0 rfl rfl ?_
  refine j_cVv (pc' := 4) m_X5_34 (c_X5_noteBefore hs h) (by assumption) (by decide) rfl rfl rfl ⟨Nat.le_of_ble_eq_true rfl, Nat.le_of_ble_eq_true rfl⟩ ⟨Nat.zero_le _, Nat.zero_le _⟩ (Nat.le_of_ble_eq_true rfl) dX5_ackAll_1 rfl (fun I1 hq => ?_)
  obtain ⟨hb, hf, hz⟩ := hq
  refine j_aload_n (pc' := 5) dX5_ackAll_4 rfl rfl ?_
  refine j_getR (pc' := 8) f_X5_27 (by assumption) (by assumption) dX5_ackAll_5 rfl ?_
  refine j_aload_n (pc' := 9) dX5_ackAll_8 rfl rfl ?_
  refine j_getR (pc' := 12) f_X5_16 (by assumption) (by assumption) dX5_ackAll_9 rfl ?_
  refine j_cVi (pc' := 15) m_X5_104 (c_X4_fillList S4 (hA.fr hV.k16 hz) hV hrk K6 (by have := hs.lo (j := 4); omega)) (by assumption) (by decide) rfl rfl rfl ⟨Nat.le_of_ble_eq_true rfl, Nat.le_of_ble_eq_true rfl⟩ ⟨Nat.zero_le _, Nat.zero_le _⟩ (Nat.le_of_ble_eq_true rfl) dX5_ackAll_12 rfl (fun x1 I1 hq => ?_)
  obtain ⟨rfl, rfl⟩ := hq
  have hls := (lsF_ok (v := v) (o := I1 (d + 6)) k)
  refine j_istore_n (pc' := 16) (lv' := [_, _, _, _]) dX5_ackAll_15 rfl (by decide) rfl ?_
  refine j_iconst (pc' := 17) (v := nI 0) dX5_ackAll_16 rfl rfl ?_
  refine j_istore_n (pc' := 18) (lv' := [_, _, _, _]) dX5_ackAll_17 rfl (by decide) rfl ?_
  refine j_iconst (pc' := 19) (v := nI 0) dX5_ackAll_18 rfl rfl ?_
  refine j_istore_n (pc' := 20) (lv' := [_, _, _, _]) dX5_ackAll_19 rfl (by decide) rfl ?_
  have hcg := lsF_cg (v := v) (o := I1 (d + 6)) (o' := o) k
  have hl := lp_X5_ackAll (E := E) (l := l) (n := n) (B1 := B + 60000) (J0 := I1) (o := (lsF v (I1 (d + 6)) k).1) hs (by omega) hV hX hls.2 (by have := hV.k16; omega) (lsF v (I1 (d + 6)) k).2 0 N (va_up I1 (d + 6) (lsF v (I1 (d + 6)) k).1) rfl ((hb.mono (by omega)).fr hs (fun z hz2 => va_up_ne _ _ (by omega))) ⟨(hA.fr hV.k16 hz).fr hV.k16 (fun z a b => va_up_ne _ _ (by have := hs.lo (j := 4); omega)), hV, fun _ _ => rfl⟩ (by have := hV.k16; omega) (fun z a b c => va_up_ne _ _ b) (va_up_self _ _ _) (Nat.le_refl _)
  refine ct_post_R (fun r R' I' hq => ?_) hl
  rw [← hcg.1, ← aaF_cg _ hcg.2]
  obtain ⟨q1, P2, q2, q3, q4, q5⟩ := hq
  exact ⟨q1, P2, q2, hf.t q3, q4, q5⟩

