set_option maxRecDepth 100000 in
set_option maxHeartbeats 4000000 in
theorem c_X4_takeFromShelf {E : jx_E} {l : Launch} {n : Nat} {kd : jx_K} {R : jx_R} {I0 I : jx_I} {q : Nat} {v : Nat → Int32} {k T S N : Nat} {x : Int32} (hs : sSt kd R q) (h : aS I0 I q v k T S N) (hNb : N + 100 < 2147483000) : jx_Ci E l yX4_takeFromShelf cX4_takeFromShelf 3 (some .int) 3 n kd R (I) [.ref q, .int x] (fun r I' => r = (fUns v x).1 ∧ ∃ N', N ≤ N' ∧ N' ≤ N + 1 ∧ aS I0 I' q (fUns v x).2 k T S N') := by
  obtain ⟨K0, K1, R0, R1, R2, hF, hL, hP⟩ := id hs
  obtain ⟨FK0, FK1, FR0⟩ := id hF
  obtain ⟨LK0, LK1, LK2, LK3, LR0, LR1, LR2⟩ := id hL
  have h16 := h.vi.k16
  have hT1 := h.vi.tl
  have hS1 := h.vi.sl
  refine jx_C0.ofJ RX4 [some (.ref q), some (.int x), none] (by decide) rfl rfl (Nat.le_of_ble_eq_true rfl) rfl ?_
  refine j_aload_n (pc' := 1) dX4_takeFromShelf_0 rfl rfl ?_
  refine j_iload_n (pc' := 2) dX4_takeFromShelf_1 rfl rfl ?_
  refine j_cVi (pc' := 5) m_X4_69 (c_X4_hasPoint hs h) (by assumption) (by decide) rfl rfl rfl ⟨Nat.le_of_ble_eq_true rfl, Nat.le_of_ble_eq_true rfl⟩ ⟨Nat.zero_le _, Nat.zero_le _⟩ (Nat.le_of_ble_eq_true rfl) dX4_takeFromShelf_2 rfl (fun x1 I1 hq => ?_)
  obtain ⟨rfl, rfl⟩ := hq
  first | refine j_if_neB' (tgt := 12) (pc' := 8) (by with_reducible rfl) dX4_takeFromShelf_5 rfl (by decide) (fun c5 => ?_) (fun c5 => ?_) | refine j_if_neN' (tgt := 12) (pc' := 8) (by with_reducible rfl) (by omega) dX4_takeFromShelf_5 rfl (by decide) (fun c5 => ?_) (fun c5 => ?_) | refine j_if_ne (tgt := 12) (pc' := 8) dX4_takeFromShelf_5 rfl (by decide) (fun c5 => ?_) (fun c5 => ?_)
  ·
    have hok := c5
    obtain ⟨i, hi, rfl⟩ := okP_nat h.vi.z h16 c5
    obtain ⟨hRi, hPi⟩ := hP i (by omega)
    obtain ⟨P0, P1, P2, PR0, PR1⟩ := id hPi
    obtain ⟨u, hu1, hu⟩ := h.vi.un hi
    refine j_aload_n (pc' := 13) dX4_takeFromShelf_12 rfl rfl ?_
    refine j_getR (pc' := 16) f_X4_11 (by assumption) (by assumption) dX4_takeFromShelf_13 rfl ?_
    refine j_iload_n (pc' := 17) dX4_takeFromShelf_16 rfl rfl ?_
    first | refine j_aaldP (pc' := 18) (by assumption) rfl (by omega) (by omega) (by first | assumption | (simp (disch := omega) only [h.num, h.tim, h.mod, h.act, h.akt, h.aks, h.f1, h.f2, h.f3, h.f4, h.f5, (h.pt hi).2.2.1, (h.pt hi).2.2.2.1, (h.pt hi).2.2.2.2.1, (h.pt hi).2.2.2.2.2.1, (h.pt hi).2.2.2.2.2.2.1, (h.pt hi).2.2.2.2.2.2.2.1, (h.pt hi).2.2.2.2.2.2.2.2.1, (h.pt hi).2.2.2.2.2.2.2.2.2.1, pk_us, pk_un]; done)) dX4_takeFromShelf_17 rfl ?_ | refine j_aaldS (pc' := 18) (by assumption) rfl (by omega) (by omega) (by assumption) dX4_takeFromShelf_17 rfl ?_
    refine j_cVi (pc' := 21) m_X4_87 (c_X2_isShelved hPi (h.pt hi)) (by assumption) (by decide) rfl rfl rfl ⟨Nat.le_of_ble_eq_true rfl, Nat.le_of_ble_eq_true rfl⟩ ⟨Nat.zero_le _, Nat.zero_le _⟩ (Nat.le_of_ble_eq_true rfl) dX4_takeFromShelf_18 rfl (fun x1 I1 hq => ?_)
    obtain ⟨rfl, rfl⟩ := hq
    first | refine j_if_neB' (tgt := 28) (pc' := 24) (by with_reducible rfl) dX4_takeFromShelf_21 rfl (by decide) (fun c21 => ?_) (fun c21 => ?_) | refine j_if_neN' (tgt := 28) (pc' := 24) (by with_reducible rfl) (by omega) dX4_takeFromShelf_21 rfl (by decide) (fun c21 => ?_) (fun c21 => ?_) | refine j_if_ne (tgt := 28) (pc' := 24) dX4_takeFromShelf_21 rfl (by decide) (fun c21 => ?_) (fun c21 => ?_)
    ·
      refine j_aload_n (pc' := 29) dX4_takeFromShelf_28 rfl rfl ?_
      refine j_getR (pc' := 32) f_X4_11 (by assumption) (by assumption) dX4_takeFromShelf_29 rfl ?_
      refine j_iload_n (pc' := 33) dX4_takeFromShelf_32 rfl rfl ?_
      first | refine j_aaldP (pc' := 34) (by assumption) rfl (by omega) (by omega) (by first | assumption | (simp (disch := omega) only [h.num, h.tim, h.mod, h.act, h.akt, h.aks, h.f1, h.f2, h.f3, h.f4, h.f5, (h.pt hi).2.2.1, (h.pt hi).2.2.2.1, (h.pt hi).2.2.2.2.1, (h.pt hi).2.2.2.2.2.1, (h.pt hi).2.2.2.2.2.2.1, (h.pt hi).2.2.2.2.2.2.2.1, (h.pt hi).2.2.2.2.2.2.2.2.1, (h.pt hi).2.2.2.2.2.2.2.2.2.1, pk_us, pk_un]; done)) dX4_takeFromShelf_33 rfl ?_ | refine j_aaldS (pc' := 34) (by assumption) rfl (by omega) (by omega) (by assumption) dX4_takeFromShelf_33 rfl ?_
      refine j_getIv (pc' := 37) f_X4_122 (by assumption) (by first | (simp (disch := omega) only [jx_upS, jx_upK, jx_upA, h.num, h.tim, h.mod, h.act, h.akt, h.aks, h.f1, h.f2, h.f3, h.f4, h.f5, (h.pt hi).2.2.1, (h.pt hi).2.2.2.1, (h.pt hi).2.2.2.2.1, (h.pt hi).2.2.2.2.2.1, (h.pt hi).2.2.2.2.2.2.1, (h.pt hi).2.2.2.2.2.2.2.1, (h.pt hi).2.2.2.2.2.2.2.2.1, (h.pt hi).2.2.2.2.2.2.2.2.2.1, pk_us, pk_un]; rfl) | rfl) dX4_takeFromShelf_34 rfl ?_
      refine j_aload_n (pc' := 38) dX4_takeFromShelf_37 rfl rfl ?_
      refine j_getIv (pc' := 41) f_X4_46 (by assumption) (by first | (simp (disch := omega) only [jx_upS, jx_upK, jx_upA, h.num, h.tim, h.mod, h.act, h.akt, h.aks, h.f1, h.f2, h.f3, h.f4, h.f5, (h.pt hi).2.2.1, (h.pt hi).2.2.2.1, (h.pt hi).2.2.2.2.1, (h.pt hi).2.2.2.2.2.1, (h.pt hi).2.2.2.2.2.2.1, (h.pt hi).2.2.2.2.2.2.2.1, (h.pt hi).2.2.2.2.2.2.2.2.1, (h.pt hi).2.2.2.2.2.2.2.2.2.1, pk_us, pk_un]; rfl) | rfl) dX4_takeFromShelf_38 rfl ?_
      refine j_isub (pc' := 42) dX4_takeFromShelf_41 rfl ?_
      refine j_istore_n (pc' := 43) (lv' := [_, _, _]) dX4_takeFromShelf_42 rfl (by decide) rfl ?_
      refine j_aload_n (pc' := 44) dX4_takeFromShelf_43 rfl rfl ?_
      refine j_iload_n (pc' := 45) dX4_takeFromShelf_44 rfl rfl ?_
      refine j_cVv (pc' := 48) m_X4_90 (c_X4_endShelf hs h hi hNb) (by assumption) (by decide) rfl rfl rfl ⟨Nat.le_of_ble_eq_true rfl, Nat.le_of_ble_eq_true rfl⟩ ⟨Nat.zero_le _, Nat.zero_le _⟩ (Nat.le_of_ble_eq_true rfl) dX4_takeFromShelf_45 rfl (fun I1 hq => ?_)
      rename_i hq0
      replace h := hq
      refine j_iload_n (pc' := 49) dX4_takeFromShelf_48 rfl rfl ?_
      refine j_reti dX4_takeFromShelf_49 rfl (by first | rfl | exact bi_n _) ?_
      unfold fUns
      rw [if_pos hok, nI_clamp (show i < 2147483648 from by omega), if_neg (fun z => by have := of_decide_eq_true c21; rw [z] at this; exact absurd this (by decide))]
      exact ⟨rfl, N + 1, by omega, by omega, h⟩
    ·
      refine j_sipush (pc' := 27) (v := -20002) dX4_takeFromShelf_24 rfl rfl ?_
      refine j_reti dX4_takeFromShelf_27 rfl (by first | rfl | exact bi_n _) ?_
      unfold fUns
      rw [if_pos hok, nI_clamp (show i < 2147483648 from by omega), if_pos (by rw [hu]; have := of_decide_eq_false c21; rw [hu, Int32.not_lt] at this; have h0 := (nI_leI (b := 0) (by omega) (by omega)).mp this; rw [show u = 0 from by omega]; rfl)]
      exact ⟨rfl, N, by omega, by omega, h⟩
  ·
    refine j_sipush (pc' := 11) (v := -20001) dX4_takeFromShelf_8 rfl rfl ?_
    refine j_reti dX4_takeFromShelf_11 rfl (by first | rfl | exact bi_n _) ?_
    unfold fUns
    rw [if_neg (by rw [c5]; decide)]
    exact ⟨rfl, N, by omega, by omega, h⟩

theorem okS_tab {s : Nat} {y : Int32} (hs : s < 7) : okS (nI s) y = decide (jx_least s ≤ y ∧ y ≤ jx_most s) := by
  have h : s = 0 ∨ s = 1 ∨ s = 2 ∨ s = 3 ∨ s = 4 ∨ s = 5 ∨ s = 6 := by omega
  rcases h with rfl | rfl | rfl | rfl | rfl | rfl | rfl <;> rfl
theorem okS_no {s y : Int32} (h : decide (nI 0 ≤ s ∧ s ≤ nI 6) = false) : ¬ okS s y = true := fun z => by
  obtain ⟨j, hj, rfl⟩ := okS_nat z
  exact of_decide_eq_false h ⟨nI_le (by omega) (by omega), nI_le (by omega) (by omega)⟩
set_option maxRecDepth 100000 in
set_option maxHeartbeats 4000000 in
theorem c_X4_changeSetting {E : jx_E} {l : Launch} {n : Nat} {kd : jx_K} {R : jx_R} {I0 I : jx_I} {q : Nat} {v : Nat → Int32} {k T S N : Nat} {x s y : Int32} (hs : sSt kd R q) (h : aS I0 I q v k T S N) (hNb : N + 100 < 2147483000) : jx_Ci E l yX4_changeSetting cX4_changeSetting 6 (some .int) 3 n kd R (I) [.ref q, .int x, .int s, .int y] (fun r I' => r = (if okP v x = true ∧ okS s y = true then v (176 + 56 * x.toNatClampNeg + s.toNatClampNeg) else -20001) ∧ ∃ N', N ≤ N' ∧ N' ≤ N + 1 ∧ aS I0 I' q (if okP v x = true ∧ okS s y = true then fSet v x s y else v) k T S N') := by
  obtain ⟨K0, K1, R0, R1, R2, hF, hL, hP⟩ := id hs
  obtain ⟨FK0, FK1, FR0⟩ := id hF
  obtain ⟨LK0, LK1, LK2, LK3, LR0, LR1, LR2⟩ := id hL
  have h16 := h.vi.k16
  have hT1 := h.vi.tl
  have hS1 := h.vi.sl
  refine jx_C0.ofJ RX4 [some (.ref q), some (.int x), some (.int s), some (.int y), none, none] (by decide) rfl rfl (Nat.le_of_ble_eq_true rfl) rfl ?_
  refine j_aload_n (pc' := 1) dX4_changeSetting_0 rfl rfl ?_
  refine j_iload_n (pc' := 2) dX4_changeSetting_1 rfl rfl ?_
  refine j_cVi (pc' := 5) m_X4_69 (c_X4_hasPoint hs h) (by assumption) (by decide) rfl rfl rfl ⟨Nat.le_of_ble_eq_true rfl, Nat.le_of_ble_eq_true rfl⟩ ⟨Nat.zero_le _, Nat.zero_le _⟩ (Nat.le_of_ble_eq_true rfl) dX4_changeSetting_2 rfl (fun x1 I1 hq => ?_)
  obtain ⟨rfl, rfl⟩ := hq
  first | refine j_if_eqB' (tgt := 35) (pc' := 8) (by with_reducible rfl) dX4_changeSetting_5 rfl (by decide) (fun c5 => ?_) (fun c5 => ?_) | refine j_if_eqN' (tgt := 35) (pc' := 8) (by with_reducible rfl) (by omega) dX4_changeSetting_5 rfl (by decide) (fun c5 => ?_) (fun c5 => ?_) | refine j_if_eq (tgt := 35) (pc' := 8) dX4_changeSetting_5 rfl (by decide) (fun c5 => ?_) (fun c5 => ?_)
  ·
    refine j_sipush (pc' := 38) (v := -20001) dX4_changeSetting_35 rfl rfl ?_
    refine j_reti dX4_changeSetting_38 rfl (by first | rfl | exact bi_n _) ?_
    rw [if_neg (fun z => by rw [c5] at z; exact absurd z.1 (by decide)), if_neg (fun z => by rw [c5] at z; exact absurd z.1 (by decide))]
    exact ⟨rfl, N, by omega, by omega, h⟩
  ·
    have hok := c5
    obtain ⟨i, hi, rfl⟩ := okP_nat h.vi.z h16 c5
    obtain ⟨hRi, hPi⟩ := hP i (by omega)
    obtain ⟨P0, P1, P2, PR0, PR1⟩ := id hPi
    refine j_iload_n (pc' := 9) dX4_changeSetting_8 rfl rfl ?_
    refine j_iconst (pc' := 10) (v := nI 0) dX4_changeSetting_9 rfl rfl ?_
    refine j_bipush (pc' := 12) (v := nI 6) dX4_changeSetting_10 rfl rfl ?_
    refine j_cSNi (pc' := 15) m_X4_61 (c_X5_isIn _ _ _ _ _ _ _ _ _) rfl rfl ⟨Nat.le_of_ble_eq_true rfl, Nat.le_of_ble_eq_true rfl⟩ ⟨Nat.zero_le _, Nat.zero_le _⟩ (Nat.le_of_ble_eq_true rfl) dX4_changeSetting_12 rfl (fun x1 I1 hq => ?_)
    obtain ⟨rfl, rfl⟩ := hq
    first | refine j_if_eqB' (tgt := 35) (pc' := 18) (by with_reducible rfl) dX4_changeSetting_15 rfl (by decide) (fun c15 => ?_) (fun c15 => ?_) | refine j_if_eqN' (tgt := 35) (pc' := 18) (by with_reducible rfl) (by omega) dX4_changeSetting_15 rfl (by decide) (fun c15 => ?_) (fun c15 => ?_) | refine j_if_eq (tgt := 35) (pc' := 18) dX4_changeSetting_15 rfl (by decide) (fun c15 => ?_) (fun c15 => ?_)
    ·
      refine j_sipush (pc' := 38) (v := -20001) dX4_changeSetting_35 rfl rfl ?_
      refine j_reti dX4_changeSetting_38 rfl (by first | rfl | exact bi_n _) ?_
      rw [if_neg (fun z => okS_no c15 z.2), if_neg (fun z => okS_no c15 z.2)]
      exact ⟨rfl, N, by omega, by omega, h⟩
    ·
      have hs6 := c15
      obtain ⟨j, _, hj6, rfl⟩ := in_nat c15 (by omega) (by omega)
      have hj : j < 7 := by omega
      refine j_iload_n (pc' := 19) dX4_changeSetting_18 rfl rfl ?_
      refine j_gsLeast (pc' := 22) rfl dX4_changeSetting_19 rfl ?_
      refine j_iload_n (pc' := 23) dX4_changeSetting_22 rfl rfl ?_
      refine j_tLeast (pc' := 24) rfl hj dX4_changeSetting_23 rfl ?_
      refine j_gsMost (pc' := 27) rfl dX4_changeSetting_24 rfl ?_
      refine j_iload_n (pc' := 28) dX4_changeSetting_27 rfl rfl ?_
      refine j_tMost (pc' := 29) rfl hj dX4_changeSetting_28 rfl ?_
      refine j_cSNi (pc' := 32) m_X4_61 (c_X5_isIn _ _ _ _ _ _ _ _ _) rfl rfl ⟨Nat.le_of_ble_eq_true rfl, Nat.le_of_ble_eq_true rfl⟩ ⟨Nat.zero_le _, Nat.zero_le _⟩ (Nat.le_of_ble_eq_true rfl) dX4_changeSetting_29 rfl (fun x1 I1 hq => ?_)
      obtain ⟨rfl, rfl⟩ := hq
      first | refine j_if_neB' (tgt := 39) (pc' := 35) (by with_reducible rfl) dX4_changeSetting_32 rfl (by decide) (fun c32 => ?_) (fun c32 => ?_) | refine j_if_neN' (tgt := 39) (pc' := 35) (by with_reducible rfl) (by omega) dX4_changeSetting_32 rfl (by decide) (fun c32 => ?_) (fun c32 => ?_) | refine j_if_ne (tgt := 39) (pc' := 35) dX4_changeSetting_32 rfl (by decide) (fun c32 => ?_) (fun c32 => ?_)
      ·
        have hoks : okS (nI j) y = true := by rw [okS_tab hj]; exact c32
        refine j_aload_n (pc' := 40) dX4_changeSetting_39 rfl rfl ?_
        refine j_getR (pc' := 43) f_X4_11 (by assumption) (by assumption) dX4_changeSetting_40 rfl ?_
        refine j_iload_n (pc' := 44) dX4_changeSetting_43 rfl rfl ?_
        first | refine j_aaldP (pc' := 45) (by assumption) rfl (by omega) (by omega) (by first | assumption | (simp (disch := omega) only [h.num, h.tim, h.mod, h.act, h.akt, h.aks, h.f1, h.f2, h.f3, h.f4, h.f5, (h.pt hi).2.2.1, (h.pt hi).2.2.2.1, (h.pt hi).2.2.2.2.1, (h.pt hi).2.2.2.2.2.1, (h.pt hi).2.2.2.2.2.2.1, (h.pt hi).2.2.2.2.2.2.2.1, (h.pt hi).2.2.2.2.2.2.2.2.1, (h.pt hi).2.2.2.2.2.2.2.2.2.1, pk_us, pk_un, (h.pt hi).1 j hj]; done)) dX4_changeSetting_44 rfl ?_ | refine j_aaldS (pc' := 45) (by assumption) rfl (by omega) (by omega) (by assumption) dX4_changeSetting_44 rfl ?_
        refine j_astore (pc' := 47) (lv' := [_, _, _, _, _, _]) dX4_changeSetting_45 rfl (by decide) rfl ?_
        refine j_aload (pc' := 49) dX4_changeSetting_47 rfl rfl ?_
        refine j_getR (pc' := 52) f_X4_80 (by assumption) (by assumption) dX4_changeSetting_49 rfl ?_
        refine j_iload_n (pc' := 53) dX4_changeSetting_52 rfl rfl ?_
        refine j_ialdv (pc' := 54) (by assumption) rfl (by omega) (by omega) (by first | (simp (disch := omega) only [jx_upS, jx_upK, jx_upA, h.num, h.tim, h.mod, h.act, h.akt, h.aks, h.f1, h.f2, h.f3, h.f4, h.f5, (h.pt hi).2.2.1, (h.pt hi).2.2.2.1, (h.pt hi).2.2.2.2.1, (h.pt hi).2.2.2.2.2.1, (h.pt hi).2.2.2.2.2.2.1, (h.pt hi).2.2.2.2.2.2.2.1, (h.pt hi).2.2.2.2.2.2.2.2.1, (h.pt hi).2.2.2.2.2.2.2.2.2.1, pk_us, pk_un, (h.pt hi).1 j hj]; rfl) | rfl) dX4_changeSetting_53 rfl ?_
        refine j_istore (pc' := 56) (lv' := [_, _, _, _, _, _]) dX4_changeSetting_54 rfl (by decide) rfl ?_
        refine j_aload (pc' := 58) dX4_changeSetting_56 rfl rfl ?_
        refine j_getR (pc' := 61) f_X4_80 (by assumption) (by assumption) dX4_changeSetting_58 rfl ?_
        refine j_iload_n (pc' := 62) dX4_changeSetting_61 rfl rfl ?_
        refine j_iload_n (pc' := 63) dX4_changeSetting_62 rfl rfl ?_
        refine j_iast (pc' := 64) (by assumption) rfl (by omega) (by omega) dX4_changeSetting_63 rfl ?_
        refine j_gen (h.ps hi hj hoks) (fun I1 h => ?_)
        refine j_aload (pc' := 66) dX4_changeSetting_64 rfl rfl ?_
        refine j_cVi (pc' := 69) m_X4_83 (c_X2_hasHighestPriority hPi (h.pt hi)) (by assumption) (by decide) rfl rfl rfl ⟨Nat.le_of_ble_eq_true rfl, Nat.le_of_ble_eq_true rfl⟩ ⟨Nat.zero_le _, Nat.zero_le _⟩ (Nat.le_of_ble_eq_true rfl) dX4_changeSetting_66 rfl (fun x1 I1 hq => ?_)
        obtain ⟨rfl, rfl⟩ := hq
        first | refine j_if_eqB' (tgt := 85) (pc' := 72) (by with_reducible rfl) dX4_changeSetting_69 rfl (by decide) (fun c69 => ?_) (fun c69 => ?_) | refine j_if_eqN' (tgt := 85) (pc' := 72) (by with_reducible rfl) (by omega) dX4_changeSetting_69 rfl (by decide) (fun c69 => ?_) (fun c69 => ?_) | refine j_if_eq (tgt := 85) (pc' := 72) dX4_changeSetting_69 rfl (by decide) (fun c69 => ?_) (fun c69 => ?_)
        ·
          refine j_iload (pc' := 87) dX4_changeSetting_85 rfl rfl ?_
          refine j_reti dX4_changeSetting_87 rfl (by first | rfl | exact bi_n _) ?_
          rw [if_pos ⟨hok, hoks⟩, if_pos ⟨hok, hoks⟩, fSet, nI_clamp (show i < 2147483648 from by omega), nI_clamp (show j < 2147483648 from by omega)]
          rw [if_neg (of_decide_eq_false c69)]
          exact ⟨rfl, N, by omega, by omega, h⟩
        ·
          refine j_aload (pc' := 74) dX4_changeSetting_72 rfl rfl ?_
          refine j_cVi (pc' := 77) m_X4_87 (c_X2_isShelved hPi (h.pt hi)) (by assumption) (by decide) rfl rfl rfl ⟨Nat.le_of_ble_eq_true rfl, Nat.le_of_ble_eq_true rfl⟩ ⟨Nat.zero_le _, Nat.zero_le _⟩ (Nat.le_of_ble_eq_true rfl) dX4_changeSetting_74 rfl (fun x1 I1 hq => ?_)
          obtain ⟨rfl, rfl⟩ := hq
          first | refine j_if_eqB' (tgt := 85) (pc' := 80) (by with_reducible rfl) dX4_changeSetting_77 rfl (by decide) (fun c77 => ?_) (fun c77 => ?_) | refine j_if_eqN' (tgt := 85) (pc' := 80) (by with_reducible rfl) (by omega) dX4_changeSetting_77 rfl (by decide) (fun c77 => ?_) (fun c77 => ?_) | refine j_if_eq (tgt := 85) (pc' := 80) dX4_changeSetting_77 rfl (by decide) (fun c77 => ?_) (fun c77 => ?_)
          ·
            refine j_iload (pc' := 87) dX4_changeSetting_85 rfl rfl ?_
            refine j_reti dX4_changeSetting_87 rfl (by first | rfl | exact bi_n _) ?_
            rw [if_pos ⟨hok, hoks⟩, if_pos ⟨hok, hoks⟩, fSet, nI_clamp (show i < 2147483648 from by omega), nI_clamp (show j < 2147483648 from by omega)]
            rw [if_pos (of_decide_eq_true c69), if_pos (Int32.not_lt.mp (of_decide_eq_false c77))]
            exact ⟨rfl, N, by omega, by omega, h⟩
          ·
            skip
            refine j_aload_n (pc' := 81) dX4_changeSetting_80 rfl rfl ?_
            refine j_iload_n (pc' := 82) dX4_changeSetting_81 rfl rfl ?_
            refine j_cVv (pc' := 85) m_X4_90 (c_X4_endShelf hs h hi hNb) (by assumption) (by decide) rfl rfl rfl ⟨Nat.le_of_ble_eq_true rfl, Nat.le_of_ble_eq_true rfl⟩ ⟨Nat.zero_le _, Nat.zero_le _⟩ (Nat.le_of_ble_eq_true rfl) dX4_changeSetting_82 rfl (fun I1 hq => ?_)
            rename_i hq0
            replace h := hq
            refine j_iload (pc' := 87) dX4_changeSetting_85 rfl rfl ?_
            refine j_reti dX4_changeSetting_87 rfl (by first | rfl | exact bi_n _) ?_
            rw [if_pos ⟨hok, hoks⟩, if_pos ⟨hok, hoks⟩, fSet, nI_clamp (show i < 2147483648 from by omega), nI_clamp (show j < 2147483648 from by omega)]
            rw [if_pos (of_decide_eq_true c69), if_neg (Int32.not_le.mpr (of_decide_eq_true c77))]
            exact ⟨rfl, N + 1, by omega, by omega, h⟩
      ·
        refine j_sipush (pc' := 38) (v := -20001) dX4_changeSetting_35 rfl rfl ?_
        refine j_reti dX4_changeSetting_38 rfl (by first | rfl | exact bi_n _) ?_
        rw [if_neg (fun z => by have := z.2; rw [okS_tab hj, c32] at this; exact absurd this (by decide)), if_neg (fun z => by have := z.2; rw [okS_tab hj, c32] at this; exact absurd this (by decide))]
        exact ⟨rfl, N, by omega, by omega, h⟩

set_option maxRecDepth 100000 in
set_option maxHeartbeats 4000000 in
theorem c_X4_changeFlood {E : jx_E} {l : Launch} {n : Nat} {kd : jx_K} {R : jx_R} {I0 I : jx_I} {q : Nat} {v : Nat → Int32} {k T S N : Nat} {x y z : Int32} (hs : sSt kd R q) (h : aS I0 I q v k T S N)  : jx_Ci E l yX4_changeFlood cX4_changeFlood 5 (some .int) 1 n kd R (I) [.ref q, .int x, .int y, .int z] (fun r I' => r = (if okF x y z = true then nI 10000 * v 5 + nI 100 * v 6 + v 7 else -20001) ∧ ∃ S', aS I0 I' q (if okF x y z = true then upd (upd (upd v 5 x) 6 y) 7 z else v) k T S' N) := by
  obtain ⟨K0, K1, R0, R1, R2, hF, hL, hP⟩ := id hs
  obtain ⟨FK0, FK1, FR0⟩ := id hF
  obtain ⟨LK0, LK1, LK2, LK3, LR0, LR1, LR2⟩ := id hL
  have h16 := h.vi.k16
  have hT1 := h.vi.tl
  have hS1 := h.vi.sl
  refine jx_C0.ofJ RX4 [some (.ref q), some (.int x), some (.int y), some (.int z), none] (by decide) rfl rfl (Nat.le_of_ble_eq_true rfl) rfl ?_
  refine j_iload_n (pc' := 1) dX4_changeFlood_0 rfl rfl ?_
  refine j_iconst (pc' := 2) (v := nI 1) dX4_changeFlood_1 rfl rfl ?_
  refine j_bipush (pc' := 4) (v := nI 60) dX4_changeFlood_2 rfl rfl ?_
  refine j_cSNi (pc' := 7) m_X4_61 (c_X5_isIn _ _ _ _ _ _ _ _ _) rfl rfl ⟨Nat.le_of_ble_eq_true rfl, Nat.le_of_ble_eq_true rfl⟩ ⟨Nat.zero_le _, Nat.zero_le _⟩ (Nat.le_of_ble_eq_true rfl) dX4_changeFlood_4 rfl (fun x1 I1 hq => ?_)
  obtain ⟨rfl, rfl⟩ := hq
  first | refine j_if_eqB' (tgt := 29) (pc' := 10) (by with_reducible rfl) dX4_changeFlood_7 rfl (by decide) (fun c7 => ?_) (fun c7 => ?_) | refine j_if_eqN' (tgt := 29) (pc' := 10) (by with_reducible rfl) (by omega) dX4_changeFlood_7 rfl (by decide) (fun c7 => ?_) (fun c7 => ?_) | refine j_if_eq (tgt := 29) (pc' := 10) dX4_changeFlood_7 rfl (by decide) (fun c7 => ?_) (fun c7 => ?_)
  ·
    refine j_sipush (pc' := 32) (v := -20001) dX4_changeFlood_29 rfl rfl ?_
    refine j_reti dX4_changeFlood_32 rfl (by first | rfl | exact bi_n _) ?_
    have e : okF x y z = false := by rw [okF, c7]; rfl
    rw [e]
    exact ⟨rfl, S, h⟩
  ·
    have c7x := c7
    obtain ⟨w, _, hw2, hw3⟩ := in_nat c7 (by omega) (by omega)
    refine j_iload_n (pc' := 11) dX4_changeFlood_10 rfl rfl ?_
    refine j_iconst (pc' := 12) (v := nI 1) dX4_changeFlood_11 rfl rfl ?_
    refine j_bipush (pc' := 14) (v := nI 50) dX4_changeFlood_12 rfl rfl ?_
    refine j_cSNi (pc' := 17) m_X4_61 (c_X5_isIn _ _ _ _ _ _ _ _ _) rfl rfl ⟨Nat.le_of_ble_eq_true rfl, Nat.le_of_ble_eq_true rfl⟩ ⟨Nat.zero_le _, Nat.zero_le _⟩ (Nat.le_of_ble_eq_true rfl) dX4_changeFlood_14 rfl (fun x1 I1 hq => ?_)
    obtain ⟨rfl, rfl⟩ := hq
    first | refine j_if_eqB' (tgt := 29) (pc' := 20) (by with_reducible rfl) dX4_changeFlood_17 rfl (by decide) (fun c17 => ?_) (fun c17 => ?_) | refine j_if_eqN' (tgt := 29) (pc' := 20) (by with_reducible rfl) (by omega) dX4_changeFlood_17 rfl (by decide) (fun c17 => ?_) (fun c17 => ?_) | refine j_if_eq (tgt := 29) (pc' := 20) dX4_changeFlood_17 rfl (by decide) (fun c17 => ?_) (fun c17 => ?_)
    ·
      refine j_sipush (pc' := 32) (v := -20001) dX4_changeFlood_29 rfl rfl ?_
      refine j_reti dX4_changeFlood_32 rfl (by first | rfl | exact bi_n _) ?_
      have e : okF x y z = false := by rw [okF, c7, c17]; rfl
      rw [e]
      exact ⟨rfl, S, h⟩
    ·
      refine j_iload_n (pc' := 21) dX4_changeFlood_20 rfl rfl ?_
      refine j_iconst (pc' := 22) (v := nI 0) dX4_changeFlood_21 rfl rfl ?_
      refine j_iload_n (pc' := 23) dX4_changeFlood_22 rfl rfl ?_
      refine j_cSNi (pc' := 26) m_X4_61 (c_X5_isIn _ _ _ _ _ _ _ _ _) rfl rfl ⟨Nat.le_of_ble_eq_true rfl, Nat.le_of_ble_eq_true rfl⟩ ⟨Nat.zero_le _, Nat.zero_le _⟩ (Nat.le_of_ble_eq_true rfl) dX4_changeFlood_23 rfl (fun x1 I1 hq => ?_)
      obtain ⟨rfl, rfl⟩ := hq
      first | refine j_if_neB' (tgt := 33) (pc' := 29) (by with_reducible rfl) dX4_changeFlood_26 rfl (by decide) (fun c26 => ?_) (fun c26 => ?_) | refine j_if_neN' (tgt := 33) (pc' := 29) (by with_reducible rfl) (by omega) dX4_changeFlood_26 rfl (by decide) (fun c26 => ?_) (fun c26 => ?_) | refine j_if_ne (tgt := 33) (pc' := 29) dX4_changeFlood_26 rfl (by decide) (fun c26 => ?_) (fun c26 => ?_)
      ·
        refine j_sipush (pc' := 36) (v := nI 10000) dX4_changeFlood_33 rfl rfl ?_
        refine j_aload_n (pc' := 37) dX4_changeFlood_36 rfl rfl ?_
        refine j_getR (pc' := 40) f_X4_20 (by assumption) (by assumption) dX4_changeFlood_37 rfl ?_
        refine j_getIv (pc' := 43) f_X4_104 (by assumption) (by first | (simp (disch := omega) only [jx_upS, jx_upK, jx_upA, h.num, h.tim, h.mod, h.act, h.akt, h.aks, h.f1, h.f2, h.f3, h.f4, h.f5, h.num, h.tim, h.mod, h.act, h.akt, h.aks, h.f1, h.f2, h.f3, h.f4, h.f5, pk_us, pk_un]; rfl) | rfl) dX4_changeFlood_40 rfl ?_
        refine j_imul (pc' := 44) dX4_changeFlood_43 rfl ?_
        refine j_bipush (pc' := 46) (v := nI 100) dX4_changeFlood_44 rfl rfl ?_
        refine j_aload_n (pc' := 47) dX4_changeFlood_46 rfl rfl ?_
        refine j_getR (pc' := 50) f_X4_20 (by assumption) (by assumption) dX4_changeFlood_47 rfl ?_
        refine j_getIv (pc' := 53) f_X4_107 (by assumption) (by first | (simp (disch := omega) only [jx_upS, jx_upK, jx_upA, h.num, h.tim, h.mod, h.act, h.akt, h.aks, h.f1, h.f2, h.f3, h.f4, h.f5, h.num, h.tim, h.mod, h.act, h.akt, h.aks, h.f1, h.f2, h.f3, h.f4, h.f5, pk_us, pk_un]; rfl) | rfl) dX4_changeFlood_50 rfl ?_
        refine j_imul (pc' := 54) dX4_changeFlood_53 rfl ?_
        refine j_iadd (pc' := 55) dX4_changeFlood_54 rfl ?_
        refine j_aload_n (pc' := 56) dX4_changeFlood_55 rfl rfl ?_
        refine j_getR (pc' := 59) f_X4_20 (by assumption) (by assumption) dX4_changeFlood_56 rfl ?_
        refine j_getIv (pc' := 62) f_X4_110 (by assumption) (by first | (simp (disch := omega) only [jx_upS, jx_upK, jx_upA, h.num, h.tim, h.mod, h.act, h.akt, h.aks, h.f1, h.f2, h.f3, h.f4, h.f5, h.num, h.tim, h.mod, h.act, h.akt, h.aks, h.f1, h.f2, h.f3, h.f4, h.f5, pk_us, pk_un]; rfl) | rfl) dX4_changeFlood_59 rfl ?_
        refine j_iadd (pc' := 63) dX4_changeFlood_62 rfl ?_
        refine j_istore (pc' := 65) (lv' := [_, _, _, _, _]) dX4_changeFlood_63 rfl (by decide) rfl ?_
        refine j_aload_n (pc' := 66) dX4_changeFlood_65 rfl rfl ?_
        refine j_getR (pc' := 69) f_X4_20 (by assumption) (by assumption) dX4_changeFlood_66 rfl ?_
        refine j_iload_n (pc' := 70) dX4_changeFlood_69 rfl rfl ?_
        refine j_putI (pc' := 73) f_X4_104 (by assumption) rfl rfl dX4_changeFlood_70 rfl ?_
        refine j_gen (h.g1 hw2 hw3) (fun I1 h => ?_)
        refine j_aload_n (pc' := 74) dX4_changeFlood_73 rfl rfl ?_
        refine j_getR (pc' := 77) f_X4_20 (by assumption) (by assumption) dX4_changeFlood_74 rfl ?_
        refine j_iload_n (pc' := 78) dX4_changeFlood_77 rfl rfl ?_
        refine j_putI (pc' := 81) f_X4_107 (by assumption) rfl rfl dX4_changeFlood_78 rfl ?_
        refine j_gen (h.g2) (fun I1 h => ?_)
        refine j_aload_n (pc' := 82) dX4_changeFlood_81 rfl rfl ?_
        refine j_getR (pc' := 85) f_X4_20 (by assumption) (by assumption) dX4_changeFlood_82 rfl ?_
        refine j_iload_n (pc' := 86) dX4_changeFlood_85 rfl rfl ?_
        refine j_putI (pc' := 89) f_X4_110 (by assumption) rfl rfl dX4_changeFlood_86 rfl ?_
        refine j_gen (h.g3) (fun I1 h => ?_)
        refine j_iload (pc' := 91) dX4_changeFlood_89 rfl rfl ?_
        refine j_reti dX4_changeFlood_91 rfl (by first | rfl | exact bi_n _) ?_
        have e : okF x y z = true := by rw [okF, c7, c17, c26]; rfl
        rw [e]
        exact ⟨rfl, w, h⟩
      ·
        refine j_sipush (pc' := 32) (v := -20001) dX4_changeFlood_29 rfl rfl ?_
        refine j_reti dX4_changeFlood_32 rfl (by first | rfl | exact bi_n _) ?_
        have e : okF x y z = false := by rw [okF, c7, c17, c26]; rfl
        rw [e]
        exact ⟨rfl, S, h⟩

