theorem c_X4_lookAtFlood {E : jx_E} {l : Launch} {n : Nat} {kd : jx_K} {R : jx_R} {I0 I : jx_I} {q : Nat} {v : Nat → Int32} {k T S N : Nat} (hs : sSt kd R q) (h : aS I0 I q v k T S N) (hNb : N + 100 < 2147483000) : jx_Cv E l yX4_lookAtFlood cX4_lookAtFlood 2 none 2 n kd R I [.ref q] (fun I' => ∃ N', N ≤ N' ∧ N' ≤ N + 1 ∧ aS I0 I' q (fld v T S) k T S N') := by
  obtain ⟨b, hb⟩ := h.vi.f
  cases b with
  | true => exact c_X4_lookAtFlood_true hs h hNb hb
  | false => exact c_X4_lookAtFlood_false hs h hNb hb
set_option maxRecDepth 100000 in
set_option maxHeartbeats 4000000 in
theorem lp1_X4_passTick {E : jx_E} {l : Launch} {n : Nat} {kd : jx_K} {R : jx_R} {I0 : jx_I} {q : Nat} {v : Nat → Int32} {k T S N : Nat} {Q : jx_Q} (hs : sSt kd R q) (hT0 : 1 ≤ T) (hNb : N + 140 < 2147483000) (hx : ∀ I1 N1, N ≤ N1 → N1 ≤ N + k → aS I0 I1 q (lookA v T k) k T S N1 → jx_J E l cX4_passTick 2 none RX4 false (jx_rm 4) 0 0 (Q) 0 0 n kd R (I1) 42 [some (.ref q), some (.int (nI k))] []) : ∀ (z i : Nat) (J : jx_I) (N1 : Nat), z + i = k + 1 → i ≤ k → N ≤ N1 → N1 ≤ N + i → aS I0 J q (lookA v T i) k T S N1 → jx_J E l cX4_passTick 2 none RX4 false (jx_rm 4) 0 0 (Q) 0 0 n kd R (J) 23 [some (.ref q), some (.int (nI i))] [] := by
  obtain ⟨K0, K1, R0, R1, R2, hF, hL, hP⟩ := id hs
  obtain ⟨FK0, FK1, FR0⟩ := id hF
  obtain ⟨LK0, LK1, LK2, LK3, LR0, LR1, LR2⟩ := id hL
  intro z
  induction z with
  | zero => intro i J N1 hz hi; omega
  | succ z ih =>
    intro i J N1 hz hi hN1 hN2 h
    have h16 := h.vi.k16
    have hT1 := h.vi.tl
    have hS1 := h.vi.sl
    refine j_iload_n (pc' := 24) dX4_passTick_23 rfl rfl ?_
    refine j_aload_n (pc' := 25) dX4_passTick_24 rfl rfl ?_
    refine j_getIv (pc' := 28) f_X4_32 (by assumption) (by first | (simp (disch := omega) only [jx_upS, jx_upK, jx_upA, h.num, h.tim, h.mod, h.act, h.akt, h.aks, h.f1, h.f2, h.f3, h.f4, h.f5, h.vi.z, pk_us, pk_un]; rfl) | rfl) dX4_passTick_25 rfl ?_
    first | refine j_icmp_geN' (tgt := 42) (pc' := 31) (by with_reducible rfl) (by with_reducible rfl) (by omega) (by omega) dX4_passTick_28 rfl (by decide) (fun c28 => ?_) (fun c28 => ?_) | refine j_icmp_ge (tgt := 42) (pc' := 31) dX4_passTick_28 rfl (by decide) (fun c28 => ?_) (fun c28 => ?_)
    ·
      have e : i = k := by omega
      subst e
      exact hx _ N1 hN1 hN2 h
    ·
      refine j_aload_n (pc' := 32) dX4_passTick_31 rfl rfl ?_
      refine j_iload_n (pc' := 33) dX4_passTick_32 rfl rfl ?_
      refine j_cVv (pc' := 36) m_X4_119 (c_X4_movePoint hs h (by omega) hT0 (by omega)) (by assumption) (by decide) rfl rfl rfl ⟨Nat.le_of_ble_eq_true rfl, Nat.le_of_ble_eq_true rfl⟩ ⟨Nat.zero_le _, Nat.zero_le _⟩ (Nat.le_of_ble_eq_true rfl) dX4_passTick_33 rfl (fun I1 hq => ?_)
      obtain ⟨N2, hN3, hN4, h⟩ := hq
      first | refine j_iincN (pc' := 39) (lv' := [_, _]) dX4_passTick_36 rfl rfl (by decide) rfl ?_ | refine j_iinc (pc' := 39) (lv' := [_, _]) dX4_passTick_36 rfl rfl rfl (by decide) rfl ?_
      refine j_goto (tgt := 23) dX4_passTick_39 (by decide) ?_
      exact ih (i + 1) _ N2 (by omega) (by omega) (by omega) (by omega) h
set_option maxRecDepth 100000 in
set_option maxHeartbeats 4000000 in
theorem lp2_X4_passTick {E : jx_E} {l : Launch} {n : Nat} {kd : jx_K} {R : jx_R} {I0 : jx_I} {q : Nat} {v : Nat → Int32} {k T S N : Nat} {Q : jx_Q} (hs : sSt kd R q) (hNb : N + 140 < 2147483000) (hx : ∀ I1 N1, N ≤ N1 → N1 ≤ N + k → aS I0 I1 q (shA v T k) k T S N1 → jx_J E l cX4_passTick 2 none RX4 false (jx_rm 4) 0 0 (Q) 0 0 n kd R (I1) 91 [some (.ref q), some (.int (nI k))] []) : ∀ (z i : Nat) (J : jx_I) (N1 : Nat), z + i = k + 1 → i ≤ k → N ≤ N1 → N1 ≤ N + i → aS I0 J q (shA v T i) k T S N1 → jx_J E l cX4_passTick 2 none RX4 false (jx_rm 4) 0 0 (Q) 0 0 n kd R (J) 44 [some (.ref q), some (.int (nI i))] [] := by
  obtain ⟨K0, K1, R0, R1, R2, hF, hL, hP⟩ := id hs
  obtain ⟨FK0, FK1, FR0⟩ := id hF
  obtain ⟨LK0, LK1, LK2, LK3, LR0, LR1, LR2⟩ := id hL
  intro z
  induction z with
  | zero => intro i J N1 hz hi; omega
  | succ z ih =>
    intro i J N1 hz hi hN1 hN2 h
    have h16 := h.vi.k16
    have hT1 := h.vi.tl
    have hS1 := h.vi.sl
    refine j_iload_n (pc' := 45) dX4_passTick_44 rfl rfl ?_
    refine j_aload_n (pc' := 46) dX4_passTick_45 rfl rfl ?_
    refine j_getIv (pc' := 49) f_X4_32 (by assumption) (by first | (simp (disch := omega) only [jx_upS, jx_upK, jx_upA, h.num, h.tim, h.mod, h.act, h.akt, h.aks, h.f1, h.f2, h.f3, h.f4, h.f5, h.vi.z, h.vi.t, pk_us, pk_un]; rfl) | rfl) dX4_passTick_46 rfl ?_
    first | refine j_icmp_geN' (tgt := 91) (pc' := 52) (by with_reducible rfl) (by with_reducible rfl) (by omega) (by omega) dX4_passTick_49 rfl (by decide) (fun c49 => ?_) (fun c49 => ?_) | refine j_icmp_ge (tgt := 91) (pc' := 52) dX4_passTick_49 rfl (by decide) (fun c49 => ?_) (fun c49 => ?_)
    ·
      have e : i = k := by omega
      subst e
      exact hx _ N1 hN1 hN2 h
    ·
      have hi2 : i < k := by omega
      obtain ⟨hRi, hPi⟩ := hP i (by omega)
      obtain ⟨P0, P1, P2, PR0, PR1⟩ := id hPi
      refine j_aload_n (pc' := 53) dX4_passTick_52 rfl rfl ?_
      refine j_getR (pc' := 56) f_X4_11 (by assumption) (by assumption) dX4_passTick_53 rfl ?_
      refine j_iload_n (pc' := 57) dX4_passTick_56 rfl rfl ?_
      first | refine j_aaldP (pc' := 58) (by assumption) rfl (by omega) (by omega) (by first | assumption | (simp (disch := omega) only [h.num, h.tim, h.mod, h.act, h.akt, h.aks, h.f1, h.f2, h.f3, h.f4, h.f5, h.vi.z, h.vi.t, (h.pt hi2).2.2.1, (h.pt hi2).2.2.2.1, (h.pt hi2).2.2.2.2.1, (h.pt hi2).2.2.2.2.2.1, (h.pt hi2).2.2.2.2.2.2.1, (h.pt hi2).2.2.2.2.2.2.2.1, (h.pt hi2).2.2.2.2.2.2.2.2.1, (h.pt hi2).2.2.2.2.2.2.2.2.2.1, pk_us, pk_un]; done)) dX4_passTick_57 rfl ?_ | refine j_aaldS (pc' := 58) (by assumption) rfl (by omega) (by omega) (by assumption) dX4_passTick_57 rfl ?_
      refine j_cVi (pc' := 61) m_X4_87 (c_X2_isShelved hPi (h.pt hi2)) (by assumption) (by decide) rfl rfl rfl ⟨Nat.le_of_ble_eq_true rfl, Nat.le_of_ble_eq_true rfl⟩ ⟨Nat.zero_le _, Nat.zero_le _⟩ (Nat.le_of_ble_eq_true rfl) dX4_passTick_58 rfl (fun x1 I1 hq => ?_)
      obtain ⟨rfl, rfl⟩ := hq
      first | refine j_if_eqB' (tgt := 85) (pc' := 64) (by with_reducible rfl) dX4_passTick_61 rfl (by decide) (fun c61 => ?_) (fun c61 => ?_) | refine j_if_eqN' (tgt := 85) (pc' := 64) (by with_reducible rfl) (by omega) dX4_passTick_61 rfl (by decide) (fun c61 => ?_) (fun c61 => ?_) | refine j_if_eq (tgt := 85) (pc' := 64) dX4_passTick_61 rfl (by decide) (fun c61 => ?_) (fun c61 => ?_)
      ·
        skip
        first | refine j_iincN (pc' := 88) (lv' := [_, _]) dX4_passTick_85 rfl rfl (by decide) rfl ?_ | refine j_iinc (pc' := 88) (lv' := [_, _]) dX4_passTick_85 rfl rfl rfl (by decide) rfl ?_
        refine j_goto (tgt := 44) dX4_passTick_88 (by decide) ?_
        exact ih (i + 1) _ N1 (by omega) (by omega) (by omega) (by omega) (by rw [shA, if_pos (Int32.not_lt.mp (of_decide_eq_false c61))]; exact h)
      ·
        refine j_aload_n (pc' := 65) dX4_passTick_64 rfl rfl ?_
        refine j_getIv (pc' := 68) f_X4_46 (by assumption) (by first | (simp (disch := omega) only [jx_upS, jx_upK, jx_upA, h.num, h.tim, h.mod, h.act, h.akt, h.aks, h.f1, h.f2, h.f3, h.f4, h.f5, h.vi.z, h.vi.t, (h.pt hi2).2.2.1, (h.pt hi2).2.2.2.1, (h.pt hi2).2.2.2.2.1, (h.pt hi2).2.2.2.2.2.1, (h.pt hi2).2.2.2.2.2.2.1, (h.pt hi2).2.2.2.2.2.2.2.1, (h.pt hi2).2.2.2.2.2.2.2.2.1, (h.pt hi2).2.2.2.2.2.2.2.2.2.1, pk_us, pk_un]; rfl) | rfl) dX4_passTick_65 rfl ?_
        refine j_aload_n (pc' := 69) dX4_passTick_68 rfl rfl ?_
        refine j_getR (pc' := 72) f_X4_11 (by assumption) (by assumption) dX4_passTick_69 rfl ?_
        refine j_iload_n (pc' := 73) dX4_passTick_72 rfl rfl ?_
        first | refine j_aaldP (pc' := 74) (by assumption) rfl (by omega) (by omega) (by first | assumption | (simp (disch := omega) only [h.num, h.tim, h.mod, h.act, h.akt, h.aks, h.f1, h.f2, h.f3, h.f4, h.f5, h.vi.z, h.vi.t, (h.pt hi2).2.2.1, (h.pt hi2).2.2.2.1, (h.pt hi2).2.2.2.2.1, (h.pt hi2).2.2.2.2.2.1, (h.pt hi2).2.2.2.2.2.2.1, (h.pt hi2).2.2.2.2.2.2.2.1, (h.pt hi2).2.2.2.2.2.2.2.2.1, (h.pt hi2).2.2.2.2.2.2.2.2.2.1, pk_us, pk_un]; done)) dX4_passTick_73 rfl ?_ | refine j_aaldS (pc' := 74) (by assumption) rfl (by omega) (by omega) (by assumption) dX4_passTick_73 rfl ?_
        refine j_getIv (pc' := 77) f_X4_122 (by assumption) (by first | (simp (disch := omega) only [jx_upS, jx_upK, jx_upA, h.num, h.tim, h.mod, h.act, h.akt, h.aks, h.f1, h.f2, h.f3, h.f4, h.f5, h.vi.z, h.vi.t, (h.pt hi2).2.2.1, (h.pt hi2).2.2.2.1, (h.pt hi2).2.2.2.2.1, (h.pt hi2).2.2.2.2.2.1, (h.pt hi2).2.2.2.2.2.2.1, (h.pt hi2).2.2.2.2.2.2.2.1, (h.pt hi2).2.2.2.2.2.2.2.2.1, (h.pt hi2).2.2.2.2.2.2.2.2.2.1, pk_us, pk_un]; rfl) | rfl) dX4_passTick_74 rfl ?_
        first | refine j_icmp_ltN' (tgt := 85) (pc' := 80) (by with_reducible rfl) (by with_reducible rfl) (by omega) (by omega) dX4_passTick_77 rfl (by decide) (fun c77 => ?_) (fun c77 => ?_) | refine j_icmp_lt (tgt := 85) (pc' := 80) dX4_passTick_77 rfl (by decide) (fun c77 => ?_) (fun c77 => ?_)
        ·
          skip
          first | refine j_iincN (pc' := 88) (lv' := [_, _]) dX4_passTick_85 rfl rfl (by decide) rfl ?_ | refine j_iinc (pc' := 88) (lv' := [_, _]) dX4_passTick_85 rfl rfl rfl (by decide) rfl ?_
          refine j_goto (tgt := 44) dX4_passTick_88 (by decide) ?_
          exact ih (i + 1) _ N1 (by omega) (by omega) (by omega) (by omega) (by rw [shA, if_neg (Int32.not_le.mpr (of_decide_eq_true c61)), if_pos c77]; exact h)
        ·
          refine j_aload_n (pc' := 81) dX4_passTick_80 rfl rfl ?_
          refine j_iload_n (pc' := 82) dX4_passTick_81 rfl rfl ?_
          refine j_cVv (pc' := 85) m_X4_90 (c_X4_endShelf hs h hi2 (by omega)) (by assumption) (by decide) rfl rfl rfl ⟨Nat.le_of_ble_eq_true rfl, Nat.le_of_ble_eq_true rfl⟩ ⟨Nat.zero_le _, Nat.zero_le _⟩ (Nat.le_of_ble_eq_true rfl) dX4_passTick_82 rfl (fun I1 hq => ?_)
          rename_i hq0
          replace h := hq
          first | refine j_iincN (pc' := 88) (lv' := [_, _]) dX4_passTick_85 rfl rfl (by decide) rfl ?_ | refine j_iinc (pc' := 88) (lv' := [_, _]) dX4_passTick_85 rfl rfl rfl (by decide) rfl ?_
          refine j_goto (tgt := 44) dX4_passTick_88 (by decide) ?_
          exact ih (i + 1) _ (N1 + 1) (by omega) (by omega) (by omega) (by omega) (by rw [shA, if_neg (Int32.not_le.mpr (of_decide_eq_true c61)), if_neg c77]; exact h)
set_option maxRecDepth 100000 in
set_option maxHeartbeats 4000000 in
theorem lp3_X4_passTick {E : jx_E} {l : Launch} {n : Nat} {kd : jx_K} {R : jx_R} {I0 : jx_I} {q : Nat} {v : Nat → Int32} {k T S N : Nat} {Q : jx_Q} (hs : sSt kd R q) (hv0 : VI v k T S N) (hK : ∀ i, i < k → ∃ K, K + 1 ≤ T ∧ v (176 + 56 * i + 15) = nI K) (hx : ∀ I1, aS I0 I1 q (ptA v k) k T S N → jx_J E l cX4_passTick 2 none RX4 false (jx_rm 4) 0 0 (Q) 0 0 n kd R (I1) 120 [some (.ref q), some (.int (nI k))] []) : ∀ (z i : Nat) (J : jx_I), z + i = k + 1 → i ≤ k → aS I0 J q (ptA v i) k T S N → jx_J E l cX4_passTick 2 none RX4 false (jx_rm 4) 0 0 (Q) 0 0 n kd R (J) 97 [some (.ref q), some (.int (nI i))] [] := by
  obtain ⟨K0, K1, R0, R1, R2, hF, hL, hP⟩ := id hs
  obtain ⟨FK0, FK1, FR0⟩ := id hF
  obtain ⟨LK0, LK1, LK2, LK3, LR0, LR1, LR2⟩ := id hL
  intro z
  induction z with
  | zero => intro i J hz hi; omega
  | succ z ih =>
    intro i J hz hi h
    have h16 := h.vi.k16
    have hT1 := h.vi.tl
    have hS1 := h.vi.sl
    refine j_iload_n (pc' := 98) dX4_passTick_97 rfl rfl ?_
    refine j_aload_n (pc' := 99) dX4_passTick_98 rfl rfl ?_
    refine j_getIv (pc' := 102) f_X4_32 (by assumption) (by first | (simp (disch := omega) only [jx_upS, jx_upK, jx_upA, h.num, h.tim, h.mod, h.act, h.akt, h.aks, h.f1, h.f2, h.f3, h.f4, h.f5, h.vi.z, pk_us, pk_un]; rfl) | rfl) dX4_passTick_99 rfl ?_
    first | refine j_icmp_geN' (tgt := 120) (pc' := 105) (by with_reducible rfl) (by with_reducible rfl) (by omega) (by omega) dX4_passTick_102 rfl (by decide) (fun c102 => ?_) (fun c102 => ?_) | refine j_icmp_ge (tgt := 120) (pc' := 105) dX4_passTick_102 rfl (by decide) (fun c102 => ?_) (fun c102 => ?_)
    ·
      have e : i = k := by omega
      subst e
      exact hx _ h
    ·
      have hi2 : i < k := by omega
      obtain ⟨hRi, hPi⟩ := hP i (by omega)
      obtain ⟨P0, P1, P2, PR0, PR1⟩ := id hPi
      obtain ⟨K, hK1, hK2⟩ := hK i hi2
      have hkp : kpt v i = K := by unfold kpt; rw [hK2, nI_clamp (by omega)]
      have hKi : ptA v i (176 + 56 * i + 15) = nI K := by rw [ptA_n (by omega) (Nat.le_refl _)]; exact hK2
      have h7i : ptA v i (176 + 56 * i + 7) = v (176 + 56 * i + 7) := ptA_n (by omega) (Nat.le_refl _)
      have hst : ptA v (i + 1) = upd (upd (ptA v i) (176 + 56 * i + (16 + K % 40)) (v (176 + 56 * i + 7))) (176 + 56 * i + 15) (nI (K + 1)) := by rw [ptA, hkp]
      refine j_aload_n (pc' := 106) dX4_passTick_105 rfl rfl ?_
      refine j_getR (pc' := 109) f_X4_11 (by assumption) (by assumption) dX4_passTick_106 rfl ?_
      refine j_iload_n (pc' := 110) dX4_passTick_109 rfl rfl ?_
      first | refine j_aaldP (pc' := 111) (by assumption) rfl (by omega) (by omega) (by first | assumption | (simp (disch := omega) only [h.num, h.tim, h.mod, h.act, h.akt, h.aks, h.f1, h.f2, h.f3, h.f4, h.f5, h.vi.z, pk_us, pk_un]; done)) dX4_passTick_110 rfl ?_ | refine j_aaldS (pc' := 111) (by assumption) rfl (by omega) (by omega) (by assumption) dX4_passTick_110 rfl ?_
      refine j_cVv (pc' := 114) m_X4_128 (c_X2_putDownValue hPi (h.pt hi2) hKi (by omega)) (by assumption) (by decide) rfl rfl rfl ⟨Nat.le_of_ble_eq_true rfl, Nat.le_of_ble_eq_true rfl⟩ ⟨Nat.zero_le _, Nat.zero_le _⟩ (Nat.le_of_ble_eq_true rfl) dX4_passTick_111 rfl (fun I1 hq => ?_)
      subst hq
      rw [h7i]
      refine j_gen (h.pv hi2 hKi (by omega) (by rw [← hst]; exact hv0.hpt hK (i + 1) (by omega))) (fun I1 h => ?_)
      rw [← hst] at h
      first | refine j_iincN (pc' := 117) (lv' := [_, _]) dX4_passTick_114 rfl rfl (by decide) rfl ?_ | refine j_iinc (pc' := 117) (lv' := [_, _]) dX4_passTick_114 rfl rfl rfl (by decide) rfl ?_
      refine j_goto (tgt := 97) dX4_passTick_117 (by decide) ?_
      exact ih (i + 1) _ (by omega) (by omega) h
set_option maxRecDepth 100000 in
set_option maxHeartbeats 4000000 in
theorem c_X4_passTick {E : jx_E} {l : Launch} {n : Nat} {kd : jx_K} {R : jx_R} {I0 I : jx_I} {q : Nat} {v : Nat → Int32} {k T S N : Nat} (hs : sSt kd R q) (h : aS I0 I q v k T S N) (hTn : T + 1 ≤ 10000) (hNb : N + 200 < 2147483000) : jx_Cv E l yX4_passTick cX4_passTick 2 none 4 n kd R (I) [.ref q] (fun I' => ∃ N', N ≤ N' ∧ N' ≤ N + 33 ∧ aS I0 I' q (sTick v k T S) k (T + 1) S N') := by
  obtain ⟨K0, K1, R0, R1, R2, hF, hL, hP⟩ := id hs
  obtain ⟨FK0, FK1, FR0⟩ := id hF
  obtain ⟨LK0, LK1, LK2, LK3, LR0, LR1, LR2⟩ := id hL
  have h16 := h.vi.k16
  have hT1 := h.vi.tl
  have hS1 := h.vi.sl
  have hvi := h.vi
  refine jx_C0.ofJ RX4 [some (.ref q), none] (by decide) rfl rfl (Nat.le_of_ble_eq_true rfl) rfl ?_
  refine j_aload_n (pc' := 1) dX4_passTick_0 rfl rfl ?_
  refine j_dup (pc' := 2) dX4_passTick_1 rfl rfl ?_
  refine j_getIv (pc' := 5) f_X4_46 (by assumption) (by first | (simp (disch := omega) only [jx_upS, jx_upK, jx_upA, h.num, h.tim, h.mod, h.act, h.akt, h.aks, h.f1, h.f2, h.f3, h.f4, h.f5, h.vi.t, jx_upS, pk_us, pk_un]; rfl) | rfl) dX4_passTick_2 rfl ?_
  refine j_iconst (pc' := 6) (v := nI 1) dX4_passTick_5 rfl rfl ?_
  first | refine j_iaddN' (pc' := 7) (by with_reducible rfl) (by with_reducible rfl) dX4_passTick_6 rfl ?_ | refine j_iadd (pc' := 7) dX4_passTick_6 rfl ?_
  refine j_putI (pc' := 10) f_X4_46 (by assumption) rfl rfl dX4_passTick_7 rfl ?_
  refine j_aload_n (pc' := 11) dX4_passTick_10 rfl rfl ?_
  refine j_getR (pc' := 14) f_X4_20 (by assumption) (by assumption) dX4_passTick_11 rfl ?_
  refine j_aload_n (pc' := 15) dX4_passTick_14 rfl rfl ?_
  refine j_getIv (pc' := 18) f_X4_46 (by assumption) (by first | (simp (disch := omega) only [jx_upS, jx_upK, jx_upA, jx_upS, pk_us, pk_un]; rfl) | rfl) dX4_passTick_15 rfl ?_
  refine j_cVv (pc' := 21) m_X4_116 (c_X0_openTime hF (by omega)) (by assumption) (by decide) rfl rfl rfl ⟨Nat.le_of_ble_eq_true rfl, Nat.le_of_ble_eq_true rfl⟩ ⟨Nat.zero_le _, Nat.zero_le _⟩ (Nat.le_of_ble_eq_true rfl) dX4_passTick_18 rfl (fun I1 hq => ?_)
  subst hq
  refine j_gen (h.opn hTn) (fun I1 h => ?_)
  refine j_iconst (pc' := 22) (v := nI 0) dX4_passTick_21 rfl rfl ?_
  refine j_istore_n (pc' := 23) (lv' := [_, _]) dX4_passTick_22 rfl (by decide) rfl ?_
  refine lp1_X4_passTick hs (v := tk0 v T) (T := T + 1) (N := N) (by omega) (by omega) (fun I1 N1 hN1 hN2 h => ?_) (k + 1) 0 _ N (by omega) (by omega) (by omega) (by omega) h
  refine j_iconst (pc' := 43) (v := nI 0) dX4_passTick_42 rfl rfl ?_
  refine j_istore_n (pc' := 44) (lv' := [_, _]) dX4_passTick_43 rfl (by decide) rfl ?_
  refine lp2_X4_passTick hs (v := lookA (tk0 v T) (T + 1) k) (N := N1) (by omega) (fun I1 N2 hN3 hN4 h => ?_) (k + 1) 0 _ N1 (by omega) (by omega) (by omega) (by omega) h
  refine j_aload_n (pc' := 92) dX4_passTick_91 rfl rfl ?_
  refine j_cVv (pc' := 95) m_X4_125 (c_X4_lookAtFlood hs h (by omega)) (by assumption) (by decide) rfl rfl rfl ⟨Nat.le_of_ble_eq_true rfl, Nat.le_of_ble_eq_true rfl⟩ ⟨Nat.zero_le _, Nat.zero_le _⟩ (Nat.le_of_ble_eq_true rfl) dX4_passTick_92 rfl (fun I1 hq => ?_)
  obtain ⟨N5, hN5, hN6, h⟩ := hq
  refine j_iconst (pc' := 96) (v := nI 0) dX4_passTick_95 rfl rfl ?_
  refine j_istore_n (pc' := 97) (lv' := [_, _]) dX4_passTick_96 rfl (by decide) rfl ?_
  refine lp3_X4_passTick hs h.vi (fun i hi => ?_) (fun I1 h => ?_) (k + 1) 0 _ (by omega) (by omega) h
  · obtain ⟨K, h1, h2⟩ := hvi.kp hi
    exact ⟨K, by omega, by rw [fld_o (by omega) (by omega), shA_f (by omega) (by omega), lookA_f (by omega) (by omega), tk0_o (by omega) (by omega), h2]⟩
  refine j_retv dX4_passTick_120 rfl ?_
  exact ⟨N5, by omega, by omega, h⟩
set_option maxRecDepth 100000 in
set_option maxHeartbeats 4000000 in
theorem lp_X4_passTicks {E : jx_E} {l : Launch} {n : Nat} {kd : jx_K} {R : jx_R} {I0 : jx_I} {q : Nat} {v : Nat → Int32} {k T S N : Nat} {x : Nat} (hs : sSt kd R q) (hx : T + x ≤ 10000) (hx1 : x ≤ 100) (hNb : N + 5000 < 2147483000) : ∀ (z j : Nat) (J : jx_I) (N1 : Nat), z + j = x + 1 → j ≤ x → N ≤ N1 → N1 ≤ N + 33 * j → aS I0 J q (tkF v k T S j) k (T + j) S N1 → jx_J E l cX4_passTicks 3 (some .int) RX4 false (jx_rm 5) 0 0 (jx_Q0 n kd R (jx_Pi (fun r I' => r = nI (T + x) ∧ ∃ N', N ≤ N' ∧ N' ≤ N + 3300 ∧ aS I0 I' q (tkF v k T S x) k (T + x) S N'))) 0 0 n kd R (J) 32 [some (.ref q), some (.int (nI x)), some (.int (nI j))] [] := by
  obtain ⟨K0, K1, R0, R1, R2, hF, hL, hP⟩ := id hs
  obtain ⟨FK0, FK1, FR0⟩ := id hF
  obtain ⟨LK0, LK1, LK2, LK3, LR0, LR1, LR2⟩ := id hL
  intro z
  induction z with
  | zero => intro j J N1 hz hi; omega
  | succ z ih =>
    intro j J N1 hz hi hN1 hN2 h
    have h16 := h.vi.k16
    have hT1 := h.vi.tl
    have hS1 := h.vi.sl
    refine j_iload_n (pc' := 33) dX4_passTicks_32 rfl rfl ?_
    refine j_iload_n (pc' := 34) dX4_passTicks_33 rfl rfl ?_
    first | refine j_icmp_geN' (tgt := 47) (pc' := 37) (by with_reducible rfl) (by with_reducible rfl) (by omega) (by omega) dX4_passTicks_34 rfl (by decide) (fun c34 => ?_) (fun c34 => ?_) | refine j_icmp_ge (tgt := 47) (pc' := 37) dX4_passTicks_34 rfl (by decide) (fun c34 => ?_) (fun c34 => ?_)
    ·
      refine j_aload_n (pc' := 48) dX4_passTicks_47 rfl rfl ?_
      refine j_getIv (pc' := 51) f_X4_46 (by assumption) (by first | (simp (disch := omega) only [jx_upS, jx_upK, jx_upA, h.num, h.tim, h.mod, h.act, h.akt, h.aks, h.f1, h.f2, h.f3, h.f4, h.f5, h.vi.t]; rfl) | rfl) dX4_passTicks_48 rfl ?_
      refine j_reti dX4_passTicks_51 rfl (by first | rfl | exact bi_n _) ?_
      have e : j = x := by omega
      subst e
      exact ⟨rfl, N1, by omega, by omega, h⟩
    ·
      refine j_aload_n (pc' := 38) dX4_passTicks_37 rfl rfl ?_
      refine j_cVv (pc' := 41) m_X4_113 (c_X4_passTick hs h (by omega) (by omega)) (by assumption) (by decide) rfl rfl rfl ⟨Nat.le_of_ble_eq_true rfl, Nat.le_of_ble_eq_true rfl⟩ ⟨Nat.zero_le _, Nat.zero_le _⟩ (Nat.le_of_ble_eq_true rfl) dX4_passTicks_38 rfl (fun I1 hq => ?_)
      obtain ⟨N2, hN3, hN4, h⟩ := hq
      first | refine j_iincN (pc' := 44) (lv' := [_, _, _]) dX4_passTicks_41 rfl rfl (by decide) rfl ?_ | refine j_iinc (pc' := 44) (lv' := [_, _, _]) dX4_passTicks_41 rfl rfl rfl (by decide) rfl ?_
      refine j_goto (tgt := 32) dX4_passTicks_44 (by decide) ?_
      exact ih (j + 1) _ N2 (by omega) (by omega) (by omega) (by omega) h
set_option maxRecDepth 100000 in
set_option maxHeartbeats 4000000 in
theorem c_X4_passTicks {E : jx_E} {l : Launch} {n : Nat} {kd : jx_K} {R : jx_R} {I0 I : jx_I} {q : Nat} {v : Nat → Int32} {k T S N : Nat} {x : Int32} (hs : sSt kd R q) (h : aS I0 I q v k T S N) (hNb : N + 5000 < 2147483000) : jx_Ci E l yX4_passTicks cX4_passTicks 3 (some .int) 5 n kd R (I) [.ref q, .int x] (fun r I' => r = (fTks v k T S x).1 ∧ ∃ T' N', N ≤ N' ∧ N' ≤ N + 3300 ∧ aS I0 I' q (fTks v k T S x).2 k T' S N') := by
  obtain ⟨K0, K1, R0, R1, R2, hF, hL, hP⟩ := id hs
  obtain ⟨FK0, FK1, FR0⟩ := id hF
  obtain ⟨LK0, LK1, LK2, LK3, LR0, LR1, LR2⟩ := id hL
  have h16 := h.vi.k16
  have hT1 := h.vi.tl
  have hS1 := h.vi.sl
  refine jx_C0.ofJ RX4 [some (.ref q), some (.int x), none] (by decide) rfl rfl (Nat.le_of_ble_eq_true rfl) rfl ?_
  refine j_iload_n (pc' := 1) dX4_passTicks_0 rfl rfl ?_
  refine j_iconst (pc' := 2) (v := nI 1) dX4_passTicks_1 rfl rfl ?_
  refine j_bipush (pc' := 4) (v := nI 100) dX4_passTicks_2 rfl rfl ?_
  refine j_cSNi (pc' := 7) m_X4_61 (c_X5_isIn _ _ _ _ _ _ _ _ _) rfl rfl ⟨Nat.le_of_ble_eq_true rfl, Nat.le_of_ble_eq_true rfl⟩ ⟨Nat.zero_le _, Nat.zero_le _⟩ (Nat.le_of_ble_eq_true rfl) dX4_passTicks_4 rfl (fun x1 I1 hq => ?_)
  obtain ⟨rfl, rfl⟩ := hq
  first | refine j_if_neB' (tgt := 14) (pc' := 10) (by with_reducible rfl) dX4_passTicks_7 rfl (by decide) (fun c7 => ?_) (fun c7 => ?_) | refine j_if_neN' (tgt := 14) (pc' := 10) (by with_reducible rfl) (by omega) dX4_passTicks_7 rfl (by decide) (fun c7 => ?_) (fun c7 => ?_) | refine j_if_ne (tgt := 14) (pc' := 10) dX4_passTicks_7 rfl (by decide) (fun c7 => ?_) (fun c7 => ?_)
  ·
    have hok := c7
    obtain ⟨j, hj0, hj, rfl⟩ := in_nat c7 (by omega) (by omega)
    refine j_aload_n (pc' := 15) dX4_passTicks_14 rfl rfl ?_
    refine j_getIv (pc' := 18) f_X4_46 (by assumption) (by first | (simp (disch := omega) only [jx_upS, jx_upK, jx_upA, h.num, h.tim, h.mod, h.act, h.akt, h.aks, h.f1, h.f2, h.f3, h.f4, h.f5, h.num, h.tim, h.mod, h.act, h.akt, h.aks, h.f1, h.f2, h.f3, h.f4, h.f5, h.vi.t]; rfl) | rfl) dX4_passTicks_15 rfl ?_
    refine j_iload_n (pc' := 19) dX4_passTicks_18 rfl rfl ?_
    first | refine j_iaddN' (pc' := 20) (by with_reducible rfl) (by with_reducible rfl) dX4_passTicks_19 rfl ?_ | refine j_iadd (pc' := 20) dX4_passTicks_19 rfl ?_
    refine j_sipush (pc' := 23) (v := nI 10000) dX4_passTicks_20 rfl rfl ?_
    first | refine j_icmp_leN' (tgt := 30) (pc' := 26) (by with_reducible rfl) (by with_reducible rfl) (by omega) (by omega) dX4_passTicks_23 rfl (by decide) (fun c23 => ?_) (fun c23 => ?_) | refine j_icmp_le (tgt := 30) (pc' := 26) dX4_passTicks_23 rfl (by decide) (fun c23 => ?_) (fun c23 => ?_)
    ·
      refine j_iconst (pc' := 31) (v := nI 0) dX4_passTicks_30 rfl rfl ?_
      refine j_istore_n (pc' := 32) (lv' := [_, _, _]) dX4_passTicks_31 rfl (by decide) rfl ?_
      refine ct_post_i ?_ (lp_X4_passTicks (v := v) (k := k) (T := T) (S := S) (N := N) hs (x := j) (by omega) (by omega) hNb (j + 1) 0 _ N (by omega) (by omega) (by omega) (by omega) h)
      intro r I' hq
      obtain ⟨rfl, N', a1, a2, a3⟩ := hq
      rw [fTks, if_pos hok, nI_clamp (by omega), if_pos (by omega)]
      exact ⟨rfl, T + j, N', a1, a2, a3⟩
    ·
      refine j_sipush (pc' := 29) (v := -20002) dX4_passTicks_26 rfl rfl ?_
      refine j_reti dX4_passTicks_29 rfl (by first | rfl | exact bi_n _) ?_
      rw [fTks, if_pos hok, nI_clamp (by omega), if_neg (by omega)]
      exact ⟨rfl, T, N, by omega, by omega, h⟩
  ·
    refine j_sipush (pc' := 13) (v := -20001) dX4_passTicks_10 rfl rfl ?_
    refine j_reti dX4_passTicks_13 rfl (by first | rfl | exact bi_n _) ?_
    rw [fTks, if_neg (by rw [c7]; decide)]
    exact ⟨rfl, T, N, by omega, by omega, h⟩

