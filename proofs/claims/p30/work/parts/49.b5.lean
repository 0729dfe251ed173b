theorem aPt_cp {J I1 : jx_I} {p g i : Nat} {v : Nat → Int32} (h : aPt J g v i) (cs : ∀ j, j < 7 → I1 (p + 1) j = J (g + 1) j) (cv : ∀ j, j < 40 → I1 (p + 2) j = J (g + 2) j) (cf : ∀ k, 2 ≤ k → k ≤ 10 → I1 p k = J g k) : aPt I1 p v i := by
  obtain ⟨hst, h15, h7, h8, h9, h10, h11, h12, h13, h14, hvl⟩ := h
  exact ⟨fun j hj => (cs j hj).trans (hst j hj), (cf 2 (by omega) (by omega)).trans h15, (cf 3 (by omega) (by omega)).trans h7, (cf 4 (by omega) (by omega)).trans h8, (cf 5 (by omega) (by omega)).trans h9, (cf 6 (by omega) (by omega)).trans h10, (cf 7 (by omega) (by omega)).trans h11, (cf 8 (by omega) (by omega)).trans h12, (cf 9 (by omega) (by omega)).trans h13, (cf 10 (by omega) (by omega)).trans h14, fun j hj hk => (cv j hj).trans (hvl j hj hk)⟩
theorem aSt_ext {I J : jx_I} {q : Nat} {v : Nat → Int32} {k T : Nat} (h : aSt I q v k T) (hk : k ≤ 16) (hI : ∀ b, q ≤ b → b < q + 56 → J b = I b) : aSt J q v k T := by
  obtain ⟨h1, h2, h3, h4, h5⟩ := h
  unfold aSt
  rw [hI q (by omega) (by omega), hI (q + 2) (by omega) (by omega), hI (q + 2 + 1) (by omega) (by omega)]
  exact ⟨h1, h2, h3, aLg_ext h4 (fun b _ _ => hI b (by omega) (by omega)) rfl (fun _ _ _ => rfl), fun i hi => aPt_ext (h5 i hi) (fun b _ _ => hI b (by omega) (by omega)) (fun _ _ => rfl)⟩

set_option maxRecDepth 100000 in
set_option maxHeartbeats 4000000 in
theorem lp_X4_copyFrom {E : jx_E} {l : Launch} {n : Nat} {kd : jx_K} {R : jx_R} {I : jx_I} {q q2 : Nat} {v : Nat → Int32} {k T S N : Nat} (hs : sSt kd R q) (hs2 : sSt kd R q2) (hd : q + 56 ≤ q2 ∨ q2 + 56 ≤ q) (h2 : aSt I q2 v k T) (hv : VI v k T S N) : ∀ (z j : Nat) (J : jx_I), z + j = k + 1 → j ≤ k → aFr I J q → (∀ i, i < j → aPt J (q + 8 + 3 * i) v i) → jx_J E l cX4_copyFrom 3 none RX4 false (jx_rm 2) 0 0 (jx_Q0 n kd R (jx_Pv (fun I' => aS I I' q v k T S N))) 0 0 n kd R (J) 2 [some (.ref q), some (.ref q2), some (.int (nI j))] [] := by
  obtain ⟨K0, K1, R0, R1, R2, hF, hL, hP⟩ := id hs
  obtain ⟨L0, L1, Q0, Q1, Q2, hF2, hL2, hP2⟩ := id hs2
  obtain ⟨FK0, FK1, FR0⟩ := id hF
  obtain ⟨LK0, LK1, LK2, LK3, LR0, LR1, LR2⟩ := id hL
  have h16 := hv.k16
  obtain ⟨b3, hb3⟩ := hv.f
  intro z
  induction z with
  | zero => intro j J hz hj; omega
  | succ z ih =>
    intro j J hz hj hfr0 hpt
    have hJ : ∀ b, q2 ≤ b ∧ b < q2 + 56 → J b = I b := fun b hb => hfr0 b (by omega)
    have hS2 : aSt J q2 v k T := aSt_ext h2 h16 (fun b a1 a2 => hJ b ⟨a1, a2⟩)
    have e3 : J q2 3 = nI k := hS2.1.1.trans hv.z
    refine j_iload_n (pc' := 3) dX4_copyFrom_2 rfl rfl ?_
    refine j_aload_n (pc' := 4) dX4_copyFrom_3 rfl rfl ?_
    refine j_getIv (pc' := 7) f_X4_32 (by assumption) (by first | (simp (disch := omega) only [jx_upS, jx_upK, jx_upA, e3]; rfl) | rfl) dX4_copyFrom_4 rfl ?_
    first | refine j_icmp_geN' (tgt := 31) (pc' := 10) (by with_reducible rfl) (by with_reducible rfl) (by omega) (by omega) dX4_copyFrom_7 rfl (by decide) (fun c7 => ?_) (fun c7 => ?_) | refine j_icmp_ge (tgt := 31) (pc' := 10) dX4_copyFrom_7 rfl (by decide) (fun c7 => ?_) (fun c7 => ?_)
    ·
      refine j_aload_n (pc' := 32) dX4_copyFrom_31 rfl rfl ?_
      refine j_getR (pc' := 35) f_X4_20 (by assumption) (by assumption) dX4_copyFrom_32 rfl ?_
      refine j_aload_n (pc' := 36) dX4_copyFrom_35 rfl rfl ?_
      refine j_getR (pc' := 39) f_X4_20 (by assumption) (by assumption) dX4_copyFrom_36 rfl ?_
      refine j_cVv (pc' := 42) m_X4_40 (c_X0_copyFrom hF hF2 (by omega) (hS2.2.1.2.2.2.1.trans hb3)) (by assumption) (by decide) rfl rfl rfl ⟨Nat.le_of_ble_eq_true rfl, Nat.le_of_ble_eq_true rfl⟩ ⟨Nat.zero_le _, Nat.zero_le _⟩ (Nat.le_of_ble_eq_true rfl) dX4_copyFrom_39 rfl (fun I1 hq => ?_)
      have hqf := hq
      obtain ⟨hfI, hfr, hf1, hf2, hf3, hf4, hf5⟩ := hq
      generalize hG : I1 = G at *
      refine j_aload_n (pc' := 43) dX4_copyFrom_42 rfl rfl ?_
      refine j_getR (pc' := 46) f_X4_27 (by assumption) (by assumption) dX4_copyFrom_43 rfl ?_
      refine j_aload_n (pc' := 47) dX4_copyFrom_46 rfl rfl ?_
      refine j_getR (pc' := 50) f_X4_27 (by assumption) (by assumption) dX4_copyFrom_47 rfl ?_
      refine j_cVv (pc' := 53) m_X4_43 (c_X1_copyFrom hL hL2 (by omega)) (by assumption) (by decide) rfl rfl rfl ⟨Nat.le_of_ble_eq_true rfl, Nat.le_of_ble_eq_true rfl⟩ ⟨Nat.zero_le _, Nat.zero_le _⟩ (Nat.le_of_ble_eq_true rfl) dX4_copyFrom_50 rfl (fun I1 hq => ?_)
      obtain ⟨hlI, hlr, hl3⟩ := hq
      have hM : ∀ b, b ≠ q + 2 → b ≠ q + 2 + 1 → b ≠ q + 4 → b ≠ q + 4 + 1 → b ≠ q + 4 + 2 → b ≠ q + 4 + 3 → I1 b = J b := fun b a1 a2 a3 a4 a5 a6 => (hlI b a3 a4 a5 a6).trans (hfI b a1 a2)
      have hq2 : I1 q2 = I q2 := (hM q2 (by omega) (by omega) (by omega) (by omega) (by omega) (by omega)).trans (hJ q2 (by omega))
      have g3 : I1 q2 3 = v 0 := by rw [hq2]; exact h2.1.1
      have g4 : I1 q2 4 = v 1 := by rw [hq2]; exact h2.1.2.1
      have g5 : I1 q2 5 = v 2 := by rw [hq2]; exact h2.1.2.2.1
      have g6 : I1 q2 6 = v 8 := by rw [hq2]; exact h2.1.2.2.2.1
      have g7 : I1 q2 7 = v 10 := by rw [hq2]; exact h2.1.2.2.2.2.1
      have g8 : I1 q2 8 = v 11 := by rw [hq2]; exact h2.1.2.2.2.2.2
      refine j_aload_n (pc' := 54) dX4_copyFrom_53 rfl rfl ?_
      refine j_aload_n (pc' := 55) dX4_copyFrom_54 rfl rfl ?_
      refine j_getIv (pc' := 58) f_X4_32 (by assumption) (by first | (simp (disch := omega) only [jx_upS, jx_upK, jx_upA, g3, g4, g5, g6, g7, g8]; rfl) | rfl) dX4_copyFrom_55 rfl ?_
      refine j_putI (pc' := 61) f_X4_32 (by assumption) rfl rfl dX4_copyFrom_58 rfl ?_
      refine j_aload_n (pc' := 62) dX4_copyFrom_61 rfl rfl ?_
      refine j_aload_n (pc' := 63) dX4_copyFrom_62 rfl rfl ?_
      refine j_getIv (pc' := 66) f_X4_46 (by assumption) (by first | (simp (disch := omega) only [jx_upS, jx_upK, jx_upA, g3, g4, g5, g6, g7, g8]; rfl) | rfl) dX4_copyFrom_63 rfl ?_
      refine j_putI (pc' := 69) f_X4_46 (by assumption) rfl rfl dX4_copyFrom_66 rfl ?_
      refine j_aload_n (pc' := 70) dX4_copyFrom_69 rfl rfl ?_
      refine j_aload_n (pc' := 71) dX4_copyFrom_70 rfl rfl ?_
      refine j_getIv (pc' := 74) f_X4_49 (by assumption) (by first | (simp (disch := omega) only [jx_upS, jx_upK, jx_upA, g3, g4, g5, g6, g7, g8]; rfl) | rfl) dX4_copyFrom_71 rfl ?_
      refine j_putI (pc' := 77) f_X4_49 (by assumption) rfl rfl dX4_copyFrom_74 rfl ?_
      refine j_aload_n (pc' := 78) dX4_copyFrom_77 rfl rfl ?_
      refine j_aload_n (pc' := 79) dX4_copyFrom_78 rfl rfl ?_
      refine j_getIv (pc' := 82) f_X4_52 (by assumption) (by first | (simp (disch := omega) only [jx_upS, jx_upK, jx_upA, g3, g4, g5, g6, g7, g8]; rfl) | rfl) dX4_copyFrom_79 rfl ?_
      refine j_putI (pc' := 85) f_X4_52 (by assumption) rfl rfl dX4_copyFrom_82 rfl ?_
      refine j_aload_n (pc' := 86) dX4_copyFrom_85 rfl rfl ?_
      refine j_aload_n (pc' := 87) dX4_copyFrom_86 rfl rfl ?_
      refine j_getIv (pc' := 90) f_X4_55 (by assumption) (by first | (simp (disch := omega) only [jx_upS, jx_upK, jx_upA, g3, g4, g5, g6, g7, g8]; rfl) | rfl) dX4_copyFrom_87 rfl ?_
      refine j_putI (pc' := 93) f_X4_55 (by assumption) rfl rfl dX4_copyFrom_90 rfl ?_
      refine j_aload_n (pc' := 94) dX4_copyFrom_93 rfl rfl ?_
      refine j_aload_n (pc' := 95) dX4_copyFrom_94 rfl rfl ?_
      refine j_getIv (pc' := 98) f_X4_58 (by assumption) (by first | (simp (disch := omega) only [jx_upS, jx_upK, jx_upA, g3, g4, g5, g6, g7, g8]; rfl) | rfl) dX4_copyFrom_95 rfl ?_
      refine j_putI (pc' := 101) f_X4_58 (by assumption) rfl rfl dX4_copyFrom_98 rfl ?_
      refine j_retv dX4_copyFrom_101 rfl ?_
      have hzz : ∀ b, b ≠ q → (jx_up (jx_up (jx_up (jx_up (jx_up (jx_up I1 q 3 (v 0)) q 4 (v 1)) q 5 (v 2)) q 6 (v 8)) q 7 (v 10)) q 8 (v 11)) b = I1 b := fun b hb => by
        funext w
        rw [jx_upA hb, jx_upA hb, jx_upA hb, jx_upA hb, jx_upA hb, jx_upA hb]
      have hjk : j = k := by omega
      subst hjk
      refine ⟨⟨?_, ?_, ?_, ?_, fun i hi => ?_⟩, hv, fun b hb => ?_⟩
      · simp (disch := omega) only [jx_upS, jx_upK, and_self]
      · rw [hzz (q + 2) (by omega), hlI (q + 2) (by omega) (by omega) (by omega) (by omega), hf1, hf2, hf3, hf4, hf5]
        exact hS2.2.1
      · rw [hzz (q + 2 + 1) (by omega), hlI (q + 2 + 1) (by omega) (by omega) (by omega) (by omega)]
        intro t a1 a2 a3
        rw [hfr _ (Nat.mod_lt _ (by decide))]
        exact hS2.2.2.1 t a1 a2 a3
      · have hg2 : aLg G (q2 + 4) v := aLg_ext hS2.2.2.2.1 (fun b _ _ => hfI b (by omega) (by omega)) rfl (fun _ _ _ => rfl)
        refine ⟨?_, fun w hw => ?_⟩
        · rw [hzz (q + 4) (by omega), hl3]; exact hg2.1
        · rw [hzz (q + 4 + 1) (by omega), hzz (q + 4 + 2) (by omega), hzz (q + 4 + 3) (by omega), (hlr w hw).1, (hlr w hw).2.1, (hlr w hw).2.2]
          exact hg2.2 w hw
      · exact aPt_ext (hpt i hi) (fun b _ _ => (hzz b (by omega)).trans (hM b (by omega) (by omega) (by omega) (by omega) (by omega) (by omega))) (fun _ _ => rfl)
      · rw [hzz b (by omega), hM b (by omega) (by omega) (by omega) (by omega) (by omega) (by omega)]
        exact hfr0 b hb
    ·
      have hi : j < k := by omega
      obtain ⟨hRi, hPi⟩ := hP j (by omega)
      obtain ⟨hRi2, hPi2⟩ := hP2 j (by omega)
      obtain ⟨P0, P1, P2, PR0, PR1⟩ := id hPi
      obtain ⟨P02, P12, P22, PR02, PR12⟩ := id hPi2
      obtain ⟨b5, hb5⟩ := hv.al hi
      obtain ⟨b6, hb6⟩ := hv.ak hi
      refine j_aload_n (pc' := 11) dX4_copyFrom_10 rfl rfl ?_
      refine j_getR (pc' := 14) f_X4_11 (by assumption) (by assumption) dX4_copyFrom_11 rfl ?_
      refine j_iload_n (pc' := 15) dX4_copyFrom_14 rfl rfl ?_
      first | refine j_aaldP (pc' := 16) (by assumption) rfl (by omega) (by omega) (by first | assumption | (simp (disch := omega) only [e3]; done)) dX4_copyFrom_15 rfl ?_ | refine j_aaldS (pc' := 16) (by assumption) rfl (by omega) (by omega) (by assumption) dX4_copyFrom_15 rfl ?_
      refine j_aload_n (pc' := 17) dX4_copyFrom_16 rfl rfl ?_
      refine j_getR (pc' := 20) f_X4_11 (by assumption) (by assumption) dX4_copyFrom_17 rfl ?_
      refine j_iload_n (pc' := 21) dX4_copyFrom_20 rfl rfl ?_
      first | refine j_aaldP (pc' := 22) (by assumption) rfl (by omega) (by omega) (by first | assumption | (simp (disch := omega) only [e3]; done)) dX4_copyFrom_21 rfl ?_ | refine j_aaldS (pc' := 22) (by assumption) rfl (by omega) (by omega) (by assumption) dX4_copyFrom_21 rfl ?_
      refine j_cVv (pc' := 25) m_X4_36 (c_X2_copyFrom hPi hPi2 (by omega) (((hS2.2.2.2.2 j hi)).2.2.2.2.1.trans hb5) (((hS2.2.2.2.2 j hi)).2.2.2.2.2.1.trans hb6)) (by assumption) (by decide) rfl rfl rfl ⟨Nat.le_of_ble_eq_true rfl, Nat.le_of_ble_eq_true rfl⟩ ⟨Nat.zero_le _, Nat.zero_le _⟩ (Nat.le_of_ble_eq_true rfl) dX4_copyFrom_22 rfl (fun I1 hq => ?_)
      obtain ⟨hcI, hcs, hcv, hcf⟩ := hq
      first | refine j_iincN (pc' := 28) (lv' := [_, _, _]) dX4_copyFrom_25 rfl rfl (by decide) rfl ?_ | refine j_iinc (pc' := 28) (lv' := [_, _, _]) dX4_copyFrom_25 rfl rfl rfl (by decide) rfl ?_
      refine j_goto (tgt := 2) dX4_copyFrom_28 (by decide) ?_
      exact ih (j + 1) I1 (by omega) (by omega) (fun b hb => (hcI b (by omega) (by omega) (by omega)).trans (hfr0 b hb)) (fun i hij => by
        by_cases e : i = j
        · subst e; exact aPt_cp (hS2.2.2.2.2 i hi) hcs hcv hcf
        · exact aPt_ext (hpt i (by omega)) (fun b _ _ => hcI b (by omega) (by omega) (by omega)) (fun _ _ => rfl))
set_option maxRecDepth 100000 in
set_option maxHeartbeats 4000000 in
theorem c_X4_copyFrom {E : jx_E} {l : Launch} {n : Nat} {kd : jx_K} {R : jx_R} {I : jx_I} {q q2 : Nat} {v : Nat → Int32} {k T S N : Nat} (hs : sSt kd R q) (hs2 : sSt kd R q2) (hd : q + 56 ≤ q2 ∨ q2 + 56 ≤ q) (h2 : aSt I q2 v k T) (hv : VI v k T S N) : jx_Cv E l yX4_copyFrom cX4_copyFrom 3 none 2 n kd R (I) [.ref q, .ref q2] (fun I' => aS I I' q v k T S N) := by
  obtain ⟨K0, K1, R0, R1, R2, hF, hL, hP⟩ := id hs
  obtain ⟨L0, L1, Q0, Q1, Q2, hF2, hL2, hP2⟩ := id hs2
  obtain ⟨FK0, FK1, FR0⟩ := id hF
  obtain ⟨LK0, LK1, LK2, LK3, LR0, LR1, LR2⟩ := id hL
  have h16 := hv.k16
  refine jx_C0.ofJ RX4 [some (.ref q), some (.ref q2), none] (by decide) rfl rfl (Nat.le_of_ble_eq_true rfl) rfl ?_
  refine j_iconst (pc' := 1) (v := nI 0) dX4_copyFrom_0 rfl rfl ?_
  refine j_istore_n (pc' := 2) (lv' := [_, _, _]) dX4_copyFrom_1 rfl (by decide) rfl ?_
  exact lp_X4_copyFrom hs hs2 hd h2 hv (k + 1) 0 I (by omega) (by omega) (fun _ _ => rfl) (fun i hi => absurd hi (by omega))

