set_option maxRecDepth 100000 in
set_option maxHeartbeats 4000000 in
theorem c_X4_movePoint_true {E : jx_E} {l : Launch} {n : Nat} {kd : jx_K} {R : jx_R} {I0 I : jx_I} {q : Nat} {v : Nat → Int32} {k T S N : Nat} {i : Nat} (hs : sSt kd R q) (h : aS I0 I q v k T S N) (hi : i < k) (hT0 : 1 ≤ T) (hNb : N + 100 < 2147483000) (hb : v (176 + 56 * i + 9) = bi true) : jx_Cv E l yX4_movePoint cX4_movePoint 3 none 3 n kd R (I) [.ref q, .int (nI i)] (fun I' => ∃ N', N ≤ N' ∧ N' ≤ N + 1 ∧ aS I0 I' q (sLook v T i) k T S N') := by
  obtain ⟨K0, K1, R0, R1, R2, hF, hL, hP⟩ := id hs
  obtain ⟨FK0, FK1, FR0⟩ := id hF
  obtain ⟨LK0, LK1, LK2, LK3, LR0, LR1, LR2⟩ := id hL
  have h16 := h.vi.k16
  have hT1 := h.vi.tl
  have hS1 := h.vi.sl
  obtain ⟨hRi, hPi⟩ := hP i (by omega)
  obtain ⟨P0, P1, P2, PR0, PR1⟩ := id hPi
  have h64 : T % 64 < 64 := Nat.mod_lt _ (by decide)
  refine jx_C0.ofJ RX4 [some (.ref q), some (.int (nI i)), none] (by decide) rfl rfl (Nat.le_of_ble_eq_true rfl) rfl ?_
  refine j_aload_n (pc' := 1) dX4_movePoint_0 rfl rfl ?_
  refine j_getR (pc' := 4) f_X4_11 (by assumption) (by assumption) dX4_movePoint_1 rfl ?_
  refine j_iload_n (pc' := 5) dX4_movePoint_4 rfl rfl ?_
  first | refine j_aaldP (pc' := 6) (by assumption) rfl (by omega) (by omega) (by first | assumption | (simp (disch := omega) only [h.num, h.tim, h.mod, h.act, h.akt, h.aks, h.f1, h.f2, h.f3, h.f4, h.f5, (h.pt hi).2.2.1, (h.pt hi).2.2.2.1, (h.pt hi).2.2.2.2.1, (h.pt hi).2.2.2.2.2.1, (h.pt hi).2.2.2.2.2.2.1, (h.pt hi).2.2.2.2.2.2.2.1, (h.pt hi).2.2.2.2.2.2.2.2.1, (h.pt hi).2.2.2.2.2.2.2.2.2.1, pk_us, pk_un, hb]; done)) dX4_movePoint_5 rfl ?_ | refine j_aaldS (pc' := 6) (by assumption) rfl (by omega) (by omega) (by assumption) dX4_movePoint_5 rfl ?_
  refine j_astore_n (pc' := 7) (lv' := [_, _, _]) dX4_movePoint_6 rfl (by decide) rfl ?_
  refine j_aload_n (pc' := 8) dX4_movePoint_7 rfl rfl ?_
  refine j_aload_n (pc' := 9) dX4_movePoint_8 rfl rfl ?_
  refine j_cVi (pc' := 12) m_X4_131 (c_X2_isTurning hPi (h.pt hi) hb) (by assumption) (by decide) rfl rfl rfl ⟨Nat.le_of_ble_eq_true rfl, Nat.le_of_ble_eq_true rfl⟩ ⟨Nat.zero_le _, Nat.zero_le _⟩ (Nat.le_of_ble_eq_true rfl) dX4_movePoint_9 rfl (fun x1 I1 hq => ?_)
  obtain ⟨rfl, rfl⟩ := hq
  first | refine j_if_eqB' (tgt := 24) (pc' := 15) (by with_reducible rfl) dX4_movePoint_12 rfl (by decide) (fun c12 => ?_) (fun c12 => ?_) | refine j_if_eqN' (tgt := 24) (pc' := 15) (by with_reducible rfl) (by omega) dX4_movePoint_12 rfl (by decide) (fun c12 => ?_) (fun c12 => ?_) | refine j_if_eq (tgt := 24) (pc' := 15) dX4_movePoint_12 rfl (by decide) (fun c12 => ?_) (fun c12 => ?_)
  ·
    have hcc : nI 0 = lkC v i := by rw [lkC, if_neg (by rw [c12]; decide)]
    refine j_iconst (pc' := 25) (v := nI 0) dX4_movePoint_24 rfl rfl ?_
    rw [hcc]
    refine j_putI (pc' := 28) f_X4_134 (by assumption) rfl rfl dX4_movePoint_25 rfl ?_
    refine j_gen (h.p7 hi (okW_free (by omega))) (fun I1 h => ?_)
    refine j_aload_n (pc' := 29) dX4_movePoint_28 rfl rfl ?_
    refine j_getIv (pc' := 32) f_X4_134 (by assumption) (by first | (simp (disch := omega) only [jx_upS, jx_upK, jx_upA, h.num, h.tim, h.mod, h.act, h.akt, h.aks, h.f1, h.f2, h.f3, h.f4, h.f5, (h.pt hi).2.2.1, (h.pt hi).2.2.2.1, (h.pt hi).2.2.2.2.1, (h.pt hi).2.2.2.2.2.1, (h.pt hi).2.2.2.2.2.2.1, (h.pt hi).2.2.2.2.2.2.2.1, (h.pt hi).2.2.2.2.2.2.2.2.1, (h.pt hi).2.2.2.2.2.2.2.2.2.1, pk_us, pk_un, hb]; rfl) | rfl) dX4_movePoint_29 rfl ?_
    refine j_aload_n (pc' := 33) dX4_movePoint_32 rfl rfl ?_
    refine j_aload_n (pc' := 34) dX4_movePoint_33 rfl rfl ?_
    refine j_getIv (pc' := 37) f_X4_137 (by assumption) (by first | (simp (disch := omega) only [jx_upS, jx_upK, jx_upA, h.num, h.tim, h.mod, h.act, h.akt, h.aks, h.f1, h.f2, h.f3, h.f4, h.f5, (h.pt hi).2.2.1, (h.pt hi).2.2.2.1, (h.pt hi).2.2.2.2.1, (h.pt hi).2.2.2.2.2.1, (h.pt hi).2.2.2.2.2.2.1, (h.pt hi).2.2.2.2.2.2.2.1, (h.pt hi).2.2.2.2.2.2.2.2.1, (h.pt hi).2.2.2.2.2.2.2.2.2.1, pk_us, pk_un, hb]; rfl) | rfl) dX4_movePoint_34 rfl ?_
    refine j_cVi (pc' := 40) m_X4_141 (c_X2_delayOf (b := true) hPi (h.pt hi)) (by assumption) (by decide) rfl rfl rfl ⟨Nat.le_of_ble_eq_true rfl, Nat.le_of_ble_eq_true rfl⟩ ⟨Nat.zero_le _, Nat.zero_le _⟩ (Nat.le_of_ble_eq_true rfl) dX4_movePoint_37 rfl (fun x1 I1 hq => ?_)
    obtain ⟨rfl, rfl⟩ := hq
    simp (disch := omega) only [reduceIte, Bool.false_eq_true, pk_un]
    first | refine j_icmp_gtN' (tgt := 44) (pc' := 43) (by with_reducible rfl) (by with_reducible rfl) (by omega) (by omega) dX4_movePoint_40 rfl (by decide) (fun c40 => ?_) (fun c40 => ?_) | refine j_icmp_gt (tgt := 44) (pc' := 43) dX4_movePoint_40 rfl (by decide) (fun c40 => ?_) (fun c40 => ?_)
    ·
      refine j_aload_n (pc' := 45) dX4_movePoint_44 rfl rfl ?_
      refine j_iconst (pc' := 46) (v := nI 0) dX4_movePoint_45 rfl rfl ?_
      refine j_putI (pc' := 49) f_X4_134 (by assumption) rfl rfl dX4_movePoint_46 rfl ?_
      refine j_gen (h.p7 hi (okW_free (by omega))) (fun I1 h => ?_)
      refine j_aload_n (pc' := 50) dX4_movePoint_49 rfl rfl ?_
      refine j_getIv (pc' := 53) f_X4_137 (by assumption) (by first | (simp (disch := omega) only [jx_upS, jx_upK, jx_upA, h.num, h.tim, h.mod, h.act, h.akt, h.aks, h.f1, h.f2, h.f3, h.f4, h.f5, (h.pt hi).2.2.1, (h.pt hi).2.2.2.1, (h.pt hi).2.2.2.2.1, (h.pt hi).2.2.2.2.2.1, (h.pt hi).2.2.2.2.2.2.1, (h.pt hi).2.2.2.2.2.2.2.1, (h.pt hi).2.2.2.2.2.2.2.2.1, (h.pt hi).2.2.2.2.2.2.2.2.2.1, pk_us, pk_un, hb]; rfl) | rfl) dX4_movePoint_50 rfl ?_
      first | refine j_if_eqB' (tgt := 77) (pc' := 56) (by with_reducible rfl) dX4_movePoint_53 rfl (by decide) (fun c53 => ?_) (fun c53 => ?_) | refine j_if_eqN' (tgt := 77) (pc' := 56) (by with_reducible rfl) (by omega) dX4_movePoint_53 rfl (by decide) (fun c53 => ?_) (fun c53 => ?_) | refine j_if_eq (tgt := 77) (pc' := 56) dX4_movePoint_53 rfl (by decide) (fun c53 => ?_) (fun c53 => ?_)
      ·
        exact absurd c53 (by decide)
      ·
        refine j_aload_n (pc' := 57) dX4_movePoint_56 rfl rfl ?_
        refine j_iconst (pc' := 58) (v := nI 0) dX4_movePoint_57 rfl rfl ?_
        refine j_putI (pc' := 61) f_X4_137 (by assumption) (by first | rfl | exact bi_n _) (by first | rfl | exact bi_fit _) dX4_movePoint_58 rfl ?_
        refine j_gen (h.p5 hi (okW_9 ⟨false, rfl⟩)) (fun I1 h => ?_)
        refine j_aload_n (pc' := 62) dX4_movePoint_61 rfl rfl ?_
        refine j_getR (pc' := 65) f_X4_27 (by assumption) (by assumption) dX4_movePoint_62 rfl ?_
        refine j_aload_n (pc' := 66) dX4_movePoint_65 rfl rfl ?_
        refine j_getIv (pc' := 69) f_X4_46 (by assumption) (by first | (simp (disch := omega) only [jx_upS, jx_upK, jx_upA, h.num, h.tim, h.mod, h.act, h.akt, h.aks, h.f1, h.f2, h.f3, h.f4, h.f5, (h.pt hi).2.2.1, (h.pt hi).2.2.2.1, (h.pt hi).2.2.2.2.1, (h.pt hi).2.2.2.2.2.1, (h.pt hi).2.2.2.2.2.2.1, (h.pt hi).2.2.2.2.2.2.2.1, (h.pt hi).2.2.2.2.2.2.2.2.1, (h.pt hi).2.2.2.2.2.2.2.2.2.1, pk_us, pk_un, hb]; rfl) | rfl) dX4_movePoint_66 rfl ?_
        refine j_iconst (pc' := 70) (v := nI 2) dX4_movePoint_69 rfl rfl ?_
        refine j_iload_n (pc' := 71) dX4_movePoint_70 rfl rfl ?_
        refine j_cVv (pc' := 74) m_X4_145 (c_X1_write hL (h.lg.1.trans h.vi.n) (by omega)) (by assumption) (by decide) rfl rfl rfl ⟨Nat.le_of_ble_eq_true rfl, Nat.le_of_ble_eq_true rfl⟩ ⟨Nat.zero_le _, Nat.zero_le _⟩ (Nat.le_of_ble_eq_true rfl) dX4_movePoint_71 rfl (fun I1 hq => ?_)
        subst hq
        refine j_gen (h.hap2 (by omega) (by simp (disch := omega) only [pk_un])) (fun I1 h => ?_)
        refine j_goto (tgt := 82) dX4_movePoint_74 (by decide) ?_
        refine j_retv dX4_movePoint_82 rfl ?_
        exact ⟨N + 1, by omega, by omega, by rw [sLook, if_neg (by rw [hb]; decide), if_neg (Int32.not_le.mpr c40)]; exact h⟩
    ·
      refine j_retv dX4_movePoint_43 rfl ?_
      exact ⟨N, by omega, by omega, by rw [sLook, if_neg (by rw [hb]; decide), if_pos (Int32.not_lt.mp c40)]; exact h⟩
  ·
    have hcc : v (176 + 56 * i + 11) + nI 1 = lkC v i := by rw [lkC, if_pos c12]
    refine j_aload_n (pc' := 16) dX4_movePoint_15 rfl rfl ?_
    refine j_getIv (pc' := 19) f_X4_134 (by assumption) (by first | (simp (disch := omega) only [jx_upS, jx_upK, jx_upA, h.num, h.tim, h.mod, h.act, h.akt, h.aks, h.f1, h.f2, h.f3, h.f4, h.f5, (h.pt hi).2.2.1, (h.pt hi).2.2.2.1, (h.pt hi).2.2.2.2.1, (h.pt hi).2.2.2.2.2.1, (h.pt hi).2.2.2.2.2.2.1, (h.pt hi).2.2.2.2.2.2.2.1, (h.pt hi).2.2.2.2.2.2.2.2.1, (h.pt hi).2.2.2.2.2.2.2.2.2.1, pk_us, pk_un, hb]; rfl) | rfl) dX4_movePoint_16 rfl ?_
    refine j_iconst (pc' := 20) (v := nI 1) dX4_movePoint_19 rfl rfl ?_
    refine j_iadd (pc' := 21) dX4_movePoint_20 rfl ?_
    refine j_goto (tgt := 25) dX4_movePoint_21 (by decide) ?_
    rw [hcc]
    refine j_putI (pc' := 28) f_X4_134 (by assumption) rfl rfl dX4_movePoint_25 rfl ?_
    refine j_gen (h.p7 hi (okW_free (by omega))) (fun I1 h => ?_)
    refine j_aload_n (pc' := 29) dX4_movePoint_28 rfl rfl ?_
    refine j_getIv (pc' := 32) f_X4_134 (by assumption) (by first | (simp (disch := omega) only [jx_upS, jx_upK, jx_upA, h.num, h.tim, h.mod, h.act, h.akt, h.aks, h.f1, h.f2, h.f3, h.f4, h.f5, (h.pt hi).2.2.1, (h.pt hi).2.2.2.1, (h.pt hi).2.2.2.2.1, (h.pt hi).2.2.2.2.2.1, (h.pt hi).2.2.2.2.2.2.1, (h.pt hi).2.2.2.2.2.2.2.1, (h.pt hi).2.2.2.2.2.2.2.2.1, (h.pt hi).2.2.2.2.2.2.2.2.2.1, pk_us, pk_un, hb]; rfl) | rfl) dX4_movePoint_29 rfl ?_
    refine j_aload_n (pc' := 33) dX4_movePoint_32 rfl rfl ?_
    refine j_aload_n (pc' := 34) dX4_movePoint_33 rfl rfl ?_
    refine j_getIv (pc' := 37) f_X4_137 (by assumption) (by first | (simp (disch := omega) only [jx_upS, jx_upK, jx_upA, h.num, h.tim, h.mod, h.act, h.akt, h.aks, h.f1, h.f2, h.f3, h.f4, h.f5, (h.pt hi).2.2.1, (h.pt hi).2.2.2.1, (h.pt hi).2.2.2.2.1, (h.pt hi).2.2.2.2.2.1, (h.pt hi).2.2.2.2.2.2.1, (h.pt hi).2.2.2.2.2.2.2.1, (h.pt hi).2.2.2.2.2.2.2.2.1, (h.pt hi).2.2.2.2.2.2.2.2.2.1, pk_us, pk_un, hb]; rfl) | rfl) dX4_movePoint_34 rfl ?_
    refine j_cVi (pc' := 40) m_X4_141 (c_X2_delayOf (b := true) hPi (h.pt hi)) (by assumption) (by decide) rfl rfl rfl ⟨Nat.le_of_ble_eq_true rfl, Nat.le_of_ble_eq_true rfl⟩ ⟨Nat.zero_le _, Nat.zero_le _⟩ (Nat.le_of_ble_eq_true rfl) dX4_movePoint_37 rfl (fun x1 I1 hq => ?_)
    obtain ⟨rfl, rfl⟩ := hq
    simp (disch := omega) only [reduceIte, Bool.false_eq_true, pk_un]
    first | refine j_icmp_gtN' (tgt := 44) (pc' := 43) (by with_reducible rfl) (by with_reducible rfl) (by omega) (by omega) dX4_movePoint_40 rfl (by decide) (fun c40 => ?_) (fun c40 => ?_) | refine j_icmp_gt (tgt := 44) (pc' := 43) dX4_movePoint_40 rfl (by decide) (fun c40 => ?_) (fun c40 => ?_)
    ·
      refine j_aload_n (pc' := 45) dX4_movePoint_44 rfl rfl ?_
      refine j_iconst (pc' := 46) (v := nI 0) dX4_movePoint_45 rfl rfl ?_
      refine j_putI (pc' := 49) f_X4_134 (by assumption) rfl rfl dX4_movePoint_46 rfl ?_
      refine j_gen (h.p7 hi (okW_free (by omega))) (fun I1 h => ?_)
      refine j_aload_n (pc' := 50) dX4_movePoint_49 rfl rfl ?_
      refine j_getIv (pc' := 53) f_X4_137 (by assumption) (by first | (simp (disch := omega) only [jx_upS, jx_upK, jx_upA, h.num, h.tim, h.mod, h.act, h.akt, h.aks, h.f1, h.f2, h.f3, h.f4, h.f5, (h.pt hi).2.2.1, (h.pt hi).2.2.2.1, (h.pt hi).2.2.2.2.1, (h.pt hi).2.2.2.2.2.1, (h.pt hi).2.2.2.2.2.2.1, (h.pt hi).2.2.2.2.2.2.2.1, (h.pt hi).2.2.2.2.2.2.2.2.1, (h.pt hi).2.2.2.2.2.2.2.2.2.1, pk_us, pk_un, hb]; rfl) | rfl) dX4_movePoint_50 rfl ?_
      first | refine j_if_eqB' (tgt := 77) (pc' := 56) (by with_reducible rfl) dX4_movePoint_53 rfl (by decide) (fun c53 => ?_) (fun c53 => ?_) | refine j_if_eqN' (tgt := 77) (pc' := 56) (by with_reducible rfl) (by omega) dX4_movePoint_53 rfl (by decide) (fun c53 => ?_) (fun c53 => ?_) | refine j_if_eq (tgt := 77) (pc' := 56) dX4_movePoint_53 rfl (by decide) (fun c53 => ?_) (fun c53 => ?_)
      ·
        exact absurd c53 (by decide)
      ·
        refine j_aload_n (pc' := 57) dX4_movePoint_56 rfl rfl ?_
        refine j_iconst (pc' := 58) (v := nI 0) dX4_movePoint_57 rfl rfl ?_
        refine j_putI (pc' := 61) f_X4_137 (by assumption) (by first | rfl | exact bi_n _) (by first | rfl | exact bi_fit _) dX4_movePoint_58 rfl ?_
        refine j_gen (h.p5 hi (okW_9 ⟨false, rfl⟩)) (fun I1 h => ?_)
        refine j_aload_n (pc' := 62) dX4_movePoint_61 rfl rfl ?_
        refine j_getR (pc' := 65) f_X4_27 (by assumption) (by assumption) dX4_movePoint_62 rfl ?_
        refine j_aload_n (pc' := 66) dX4_movePoint_65 rfl rfl ?_
        refine j_getIv (pc' := 69) f_X4_46 (by assumption) (by first | (simp (disch := omega) only [jx_upS, jx_upK, jx_upA, h.num, h.tim, h.mod, h.act, h.akt, h.aks, h.f1, h.f2, h.f3, h.f4, h.f5, (h.pt hi).2.2.1, (h.pt hi).2.2.2.1, (h.pt hi).2.2.2.2.1, (h.pt hi).2.2.2.2.2.1, (h.pt hi).2.2.2.2.2.2.1, (h.pt hi).2.2.2.2.2.2.2.1, (h.pt hi).2.2.2.2.2.2.2.2.1, (h.pt hi).2.2.2.2.2.2.2.2.2.1, pk_us, pk_un, hb]; rfl) | rfl) dX4_movePoint_66 rfl ?_
        refine j_iconst (pc' := 70) (v := nI 2) dX4_movePoint_69 rfl rfl ?_
        refine j_iload_n (pc' := 71) dX4_movePoint_70 rfl rfl ?_
        refine j_cVv (pc' := 74) m_X4_145 (c_X1_write hL (h.lg.1.trans h.vi.n) (by omega)) (by assumption) (by decide) rfl rfl rfl ⟨Nat.le_of_ble_eq_true rfl, Nat.le_of_ble_eq_true rfl⟩ ⟨Nat.zero_le _, Nat.zero_le _⟩ (Nat.le_of_ble_eq_true rfl) dX4_movePoint_71 rfl (fun I1 hq => ?_)
        subst hq
        refine j_gen (h.hap2 (by omega) (by simp (disch := omega) only [pk_un])) (fun I1 h => ?_)
        refine j_goto (tgt := 82) dX4_movePoint_74 (by decide) ?_
        refine j_retv dX4_movePoint_82 rfl ?_
        exact ⟨N + 1, by omega, by omega, by rw [sLook, if_neg (by rw [hb]; decide), if_neg (Int32.not_le.mpr c40)]; exact h⟩
    ·
      refine j_retv dX4_movePoint_43 rfl ?_
      exact ⟨N, by omega, by omega, by rw [sLook, if_neg (by rw [hb]; decide), if_pos (Int32.not_lt.mp c40)]; exact h⟩

set_option maxRecDepth 100000 in
set_option maxHeartbeats 4000000 in
theorem c_X4_movePoint_false {E : jx_E} {l : Launch} {n : Nat} {kd : jx_K} {R : jx_R} {I0 I : jx_I} {q : Nat} {v : Nat → Int32} {k T S N : Nat} {i : Nat} (hs : sSt kd R q) (h : aS I0 I q v k T S N) (hi : i < k) (hT0 : 1 ≤ T) (hNb : N + 100 < 2147483000) (hb : v (176 + 56 * i + 9) = bi false) : jx_Cv E l yX4_movePoint cX4_movePoint 3 none 3 n kd R (I) [.ref q, .int (nI i)] (fun I' => ∃ N', N ≤ N' ∧ N' ≤ N + 1 ∧ aS I0 I' q (sLook v T i) k T S N') := by
  obtain ⟨K0, K1, R0, R1, R2, hF, hL, hP⟩ := id hs
  obtain ⟨FK0, FK1, FR0⟩ := id hF
  obtain ⟨LK0, LK1, LK2, LK3, LR0, LR1, LR2⟩ := id hL
  have h16 := h.vi.k16
  have hT1 := h.vi.tl
  have hS1 := h.vi.sl
  obtain ⟨hRi, hPi⟩ := hP i (by omega)
  obtain ⟨P0, P1, P2, PR0, PR1⟩ := id hPi
  have h64 : T % 64 < 64 := Nat.mod_lt _ (by decide)
  refine jx_C0.ofJ RX4 [some (.ref q), some (.int (nI i)), none] (by decide) rfl rfl (Nat.le_of_ble_eq_true rfl) rfl ?_
  refine j_aload_n (pc' := 1) dX4_movePoint_0 rfl rfl ?_
  refine j_getR (pc' := 4) f_X4_11 (by assumption) (by assumption) dX4_movePoint_1 rfl ?_
  refine j_iload_n (pc' := 5) dX4_movePoint_4 rfl rfl ?_
  first | refine j_aaldP (pc' := 6) (by assumption) rfl (by omega) (by omega) (by first | assumption | (simp (disch := omega) only [h.num, h.tim, h.mod, h.act, h.akt, h.aks, h.f1, h.f2, h.f3, h.f4, h.f5, (h.pt hi).2.2.1, (h.pt hi).2.2.2.1, (h.pt hi).2.2.2.2.1, (h.pt hi).2.2.2.2.2.1, (h.pt hi).2.2.2.2.2.2.1, (h.pt hi).2.2.2.2.2.2.2.1, (h.pt hi).2.2.2.2.2.2.2.2.1, (h.pt hi).2.2.2.2.2.2.2.2.2.1, pk_us, pk_un, hb]; done)) dX4_movePoint_5 rfl ?_ | refine j_aaldS (pc' := 6) (by assumption) rfl (by omega) (by omega) (by assumption) dX4_movePoint_5 rfl ?_
  refine j_astore_n (pc' := 7) (lv' := [_, _, _]) dX4_movePoint_6 rfl (by decide) rfl ?_
  refine j_aload_n (pc' := 8) dX4_movePoint_7 rfl rfl ?_
  refine j_aload_n (pc' := 9) dX4_movePoint_8 rfl rfl ?_
  refine j_cVi (pc' := 12) m_X4_131 (c_X2_isTurning hPi (h.pt hi) hb) (by assumption) (by decide) rfl rfl rfl ⟨Nat.le_of_ble_eq_true rfl, Nat.le_of_ble_eq_true rfl⟩ ⟨Nat.zero_le _, Nat.zero_le _⟩ (Nat.le_of_ble_eq_true rfl) dX4_movePoint_9 rfl (fun x1 I1 hq => ?_)
  obtain ⟨rfl, rfl⟩ := hq
  first | refine j_if_eqB' (tgt := 24) (pc' := 15) (by with_reducible rfl) dX4_movePoint_12 rfl (by decide) (fun c12 => ?_) (fun c12 => ?_) | refine j_if_eqN' (tgt := 24) (pc' := 15) (by with_reducible rfl) (by omega) dX4_movePoint_12 rfl (by decide) (fun c12 => ?_) (fun c12 => ?_) | refine j_if_eq (tgt := 24) (pc' := 15) dX4_movePoint_12 rfl (by decide) (fun c12 => ?_) (fun c12 => ?_)
  ·
    have hcc : nI 0 = lkC v i := by rw [lkC, if_neg (by rw [c12]; decide)]
    refine j_iconst (pc' := 25) (v := nI 0) dX4_movePoint_24 rfl rfl ?_
    rw [hcc]
    refine j_putI (pc' := 28) f_X4_134 (by assumption) rfl rfl dX4_movePoint_25 rfl ?_
    refine j_gen (h.p7 hi (okW_free (by omega))) (fun I1 h => ?_)
    refine j_aload_n (pc' := 29) dX4_movePoint_28 rfl rfl ?_
    refine j_getIv (pc' := 32) f_X4_134 (by assumption) (by first | (simp (disch := omega) only [jx_upS, jx_upK, jx_upA, h.num, h.tim, h.mod, h.act, h.akt, h.aks, h.f1, h.f2, h.f3, h.f4, h.f5, (h.pt hi).2.2.1, (h.pt hi).2.2.2.1, (h.pt hi).2.2.2.2.1, (h.pt hi).2.2.2.2.2.1, (h.pt hi).2.2.2.2.2.2.1, (h.pt hi).2.2.2.2.2.2.2.1, (h.pt hi).2.2.2.2.2.2.2.2.1, (h.pt hi).2.2.2.2.2.2.2.2.2.1, pk_us, pk_un, hb]; rfl) | rfl) dX4_movePoint_29 rfl ?_
    refine j_aload_n (pc' := 33) dX4_movePoint_32 rfl rfl ?_
    refine j_aload_n (pc' := 34) dX4_movePoint_33 rfl rfl ?_
    refine j_getIv (pc' := 37) f_X4_137 (by assumption) (by first | (simp (disch := omega) only [jx_upS, jx_upK, jx_upA, h.num, h.tim, h.mod, h.act, h.akt, h.aks, h.f1, h.f2, h.f3, h.f4, h.f5, (h.pt hi).2.2.1, (h.pt hi).2.2.2.1, (h.pt hi).2.2.2.2.1, (h.pt hi).2.2.2.2.2.1, (h.pt hi).2.2.2.2.2.2.1, (h.pt hi).2.2.2.2.2.2.2.1, (h.pt hi).2.2.2.2.2.2.2.2.1, (h.pt hi).2.2.2.2.2.2.2.2.2.1, pk_us, pk_un, hb]; rfl) | rfl) dX4_movePoint_34 rfl ?_
    refine j_cVi (pc' := 40) m_X4_141 (c_X2_delayOf (b := false) hPi (h.pt hi)) (by assumption) (by decide) rfl rfl rfl ⟨Nat.le_of_ble_eq_true rfl, Nat.le_of_ble_eq_true rfl⟩ ⟨Nat.zero_le _, Nat.zero_le _⟩ (Nat.le_of_ble_eq_true rfl) dX4_movePoint_37 rfl (fun x1 I1 hq => ?_)
    obtain ⟨rfl, rfl⟩ := hq
    simp (disch := omega) only [reduceIte, Bool.false_eq_true, pk_un]
    first | refine j_icmp_gtN' (tgt := 44) (pc' := 43) (by with_reducible rfl) (by with_reducible rfl) (by omega) (by omega) dX4_movePoint_40 rfl (by decide) (fun c40 => ?_) (fun c40 => ?_) | refine j_icmp_gt (tgt := 44) (pc' := 43) dX4_movePoint_40 rfl (by decide) (fun c40 => ?_) (fun c40 => ?_)
    ·
      refine j_aload_n (pc' := 45) dX4_movePoint_44 rfl rfl ?_
      refine j_iconst (pc' := 46) (v := nI 0) dX4_movePoint_45 rfl rfl ?_
      refine j_putI (pc' := 49) f_X4_134 (by assumption) rfl rfl dX4_movePoint_46 rfl ?_
      refine j_gen (h.p7 hi (okW_free (by omega))) (fun I1 h => ?_)
      refine j_aload_n (pc' := 50) dX4_movePoint_49 rfl rfl ?_
      refine j_getIv (pc' := 53) f_X4_137 (by assumption) (by first | (simp (disch := omega) only [jx_upS, jx_upK, jx_upA, h.num, h.tim, h.mod, h.act, h.akt, h.aks, h.f1, h.f2, h.f3, h.f4, h.f5, (h.pt hi).2.2.1, (h.pt hi).2.2.2.1, (h.pt hi).2.2.2.2.1, (h.pt hi).2.2.2.2.2.1, (h.pt hi).2.2.2.2.2.2.1, (h.pt hi).2.2.2.2.2.2.2.1, (h.pt hi).2.2.2.2.2.2.2.2.1, (h.pt hi).2.2.2.2.2.2.2.2.2.1, pk_us, pk_un, hb]; rfl) | rfl) dX4_movePoint_50 rfl ?_
      first | refine j_if_eqB' (tgt := 77) (pc' := 56) (by with_reducible rfl) dX4_movePoint_53 rfl (by decide) (fun c53 => ?_) (fun c53 => ?_) | refine j_if_eqN' (tgt := 77) (pc' := 56) (by with_reducible rfl) (by omega) dX4_movePoint_53 rfl (by decide) (fun c53 => ?_) (fun c53 => ?_) | refine j_if_eq (tgt := 77) (pc' := 56) dX4_movePoint_53 rfl (by decide) (fun c53 => ?_) (fun c53 => ?_)
      ·
        refine j_aload_n (pc' := 78) dX4_movePoint_77 rfl rfl ?_
        refine j_iload_n (pc' := 79) dX4_movePoint_78 rfl rfl ?_
        refine j_cVv (pc' := 82) m_X4_149 (c_X4_activate hs h hi hT0 (by omega)) (by assumption) (by decide) rfl rfl rfl ⟨Nat.le_of_ble_eq_true rfl, Nat.le_of_ble_eq_true rfl⟩ ⟨Nat.zero_le _, Nat.zero_le _⟩ (Nat.le_of_ble_eq_true rfl) dX4_movePoint_79 rfl (fun I1 hq => ?_)
        replace h := hq
        simp (disch := omega) only [pk_un] at h
        refine j_retv dX4_movePoint_82 rfl ?_
        exact ⟨N + 1, by omega, by omega, by rw [sLook, if_pos (by rw [hb]; rfl), if_neg (Int32.not_le.mpr c40)]; exact h⟩
      ·
        exact absurd c53 (by decide)
    ·
      refine j_retv dX4_movePoint_43 rfl ?_
      exact ⟨N, by omega, by omega, by rw [sLook, if_pos (by rw [hb]; rfl), if_pos (Int32.not_lt.mp c40)]; exact h⟩
  ·
    have hcc : v (176 + 56 * i + 11) + nI 1 = lkC v i := by rw [lkC, if_pos c12]
    refine j_aload_n (pc' := 16) dX4_movePoint_15 rfl rfl ?_
    refine j_getIv (pc' := 19) f_X4_134 (by assumption) (by first | (simp (disch := omega) only [jx_upS, jx_upK, jx_upA, h.num, h.tim, h.mod, h.act, h.akt, h.aks, h.f1, h.f2, h.f3, h.f4, h.f5, (h.pt hi).2.2.1, (h.pt hi).2.2.2.1, (h.pt hi).2.2.2.2.1, (h.pt hi).2.2.2.2.2.1, (h.pt hi).2.2.2.2.2.2.1, (h.pt hi).2.2.2.2.2.2.2.1, (h.pt hi).2.2.2.2.2.2.2.2.1, (h.pt hi).2.2.2.2.2.2.2.2.2.1, pk_us, pk_un, hb]; rfl) | rfl) dX4_movePoint_16 rfl ?_
    refine j_iconst (pc' := 20) (v := nI 1) dX4_movePoint_19 rfl rfl ?_
    refine j_iadd (pc' := 21) dX4_movePoint_20 rfl ?_
    refine j_goto (tgt := 25) dX4_movePoint_21 (by decide) ?_
    rw [hcc]
    refine j_putI (pc' := 28) f_X4_134 (by assumption) rfl rfl dX4_movePoint_25 rfl ?_
    refine j_gen (h.p7 hi (okW_free (by omega))) (fun I1 h => ?_)
    refine j_aload_n (pc' := 29) dX4_movePoint_28 rfl rfl ?_
    refine j_getIv (pc' := 32) f_X4_134 (by assumption) (by first | (simp (disch := omega) only [jx_upS, jx_upK, jx_upA, h.num, h.tim, h.mod, h.act, h.akt, h.aks, h.f1, h.f2, h.f3, h.f4, h.f5, (h.pt hi).2.2.1, (h.pt hi).2.2.2.1, (h.pt hi).2.2.2.2.1, (h.pt hi).2.2.2.2.2.1, (h.pt hi).2.2.2.2.2.2.1, (h.pt hi).2.2.2.2.2.2.2.1, (h.pt hi).2.2.2.2.2.2.2.2.1, (h.pt hi).2.2.2.2.2.2.2.2.2.1, pk_us, pk_un, hb]; rfl) | rfl) dX4_movePoint_29 rfl ?_
    refine j_aload_n (pc' := 33) dX4_movePoint_32 rfl rfl ?_
    refine j_aload_n (pc' := 34) dX4_movePoint_33 rfl rfl ?_
    refine j_getIv (pc' := 37) f_X4_137 (by assumption) (by first | (simp (disch := omega) only [jx_upS, jx_upK, jx_upA, h.num, h.tim, h.mod, h.act, h.akt, h.aks, h.f1, h.f2, h.f3, h.f4, h.f5, (h.pt hi).2.2.1, (h.pt hi).2.2.2.1, (h.pt hi).2.2.2.2.1, (h.pt hi).2.2.2.2.2.1, (h.pt hi).2.2.2.2.2.2.1, (h.pt hi).2.2.2.2.2.2.2.1, (h.pt hi).2.2.2.2.2.2.2.2.1, (h.pt hi).2.2.2.2.2.2.2.2.2.1, pk_us, pk_un, hb]; rfl) | rfl) dX4_movePoint_34 rfl ?_
    refine j_cVi (pc' := 40) m_X4_141 (c_X2_delayOf (b := false) hPi (h.pt hi)) (by assumption) (by decide) rfl rfl rfl ⟨Nat.le_of_ble_eq_true rfl, Nat.le_of_ble_eq_true rfl⟩ ⟨Nat.zero_le _, Nat.zero_le _⟩ (Nat.le_of_ble_eq_true rfl) dX4_movePoint_37 rfl (fun x1 I1 hq => ?_)
    obtain ⟨rfl, rfl⟩ := hq
    simp (disch := omega) only [reduceIte, Bool.false_eq_true, pk_un]
    first | refine j_icmp_gtN' (tgt := 44) (pc' := 43) (by with_reducible rfl) (by with_reducible rfl) (by omega) (by omega) dX4_movePoint_40 rfl (by decide) (fun c40 => ?_) (fun c40 => ?_) | refine j_icmp_gt (tgt := 44) (pc' := 43) dX4_movePoint_40 rfl (by decide) (fun c40 => ?_) (fun c40 => ?_)
    ·
      refine j_aload_n (pc' := 45) dX4_movePoint_44 rfl rfl ?_
      refine j_iconst (pc' := 46) (v := nI 0) dX4_movePoint_45 rfl rfl ?_
      refine j_putI (pc' := 49) f_X4_134 (by assumption) rfl rfl dX4_movePoint_46 rfl ?_
      refine j_gen (h.p7 hi (okW_free (by omega))) (fun I1 h => ?_)
      refine j_aload_n (pc' := 50) dX4_movePoint_49 rfl rfl ?_
      refine j_getIv (pc' := 53) f_X4_137 (by assumption) (by first | (simp (disch := omega) only [jx_upS, jx_upK, jx_upA, h.num, h.tim, h.mod, h.act, h.akt, h.aks, h.f1, h.f2, h.f3, h.f4, h.f5, (h.pt hi).2.2.1, (h.pt hi).2.2.2.1, (h.pt hi).2.2.2.2.1, (h.pt hi).2.2.2.2.2.1, (h.pt hi).2.2.2.2.2.2.1, (h.pt hi).2.2.2.2.2.2.2.1, (h.pt hi).2.2.2.2.2.2.2.2.1, (h.pt hi).2.2.2.2.2.2.2.2.2.1, pk_us, pk_un, hb]; rfl) | rfl) dX4_movePoint_50 rfl ?_
      first | refine j_if_eqB' (tgt := 77) (pc' := 56) (by with_reducible rfl) dX4_movePoint_53 rfl (by decide) (fun c53 => ?_) (fun c53 => ?_) | refine j_if_eqN' (tgt := 77) (pc' := 56) (by with_reducible rfl) (by omega) dX4_movePoint_53 rfl (by decide) (fun c53 => ?_) (fun c53 => ?_) | refine j_if_eq (tgt := 77) (pc' := 56) dX4_movePoint_53 rfl (by decide) (fun c53 => ?_) (fun c53 => ?_)
      ·
        refine j_aload_n (pc' := 78) dX4_movePoint_77 rfl rfl ?_
        refine j_iload_n (pc' := 79) dX4_movePoint_78 rfl rfl ?_
        refine j_cVv (pc' := 82) m_X4_149 (c_X4_activate hs h hi hT0 (by omega)) (by assumption) (by decide) rfl rfl rfl ⟨Nat.le_of_ble_eq_true rfl, Nat.le_of_ble_eq_true rfl⟩ ⟨Nat.zero_le _, Nat.zero_le _⟩ (Nat.le_of_ble_eq_true rfl) dX4_movePoint_79 rfl (fun I1 hq => ?_)
        replace h := hq
        simp (disch := omega) only [pk_un] at h
        refine j_retv dX4_movePoint_82 rfl ?_
        exact ⟨N + 1, by omega, by omega, by rw [sLook, if_pos (by rw [hb]; rfl), if_neg (Int32.not_le.mpr c40)]; exact h⟩
      ·
        exact absurd c53 (by decide)
    ·
      refine j_retv dX4_movePoint_43 rfl ?_
      exact ⟨N, by omega, by omega, by rw [sLook, if_pos (by rw [hb]; rfl), if_pos (Int32.not_lt.mp c40)]; exact h⟩

theorem c_X4_movePoint {E : jx_E} {l : Launch} {n : Nat} {kd : jx_K} {R : jx_R} {I0 I : jx_I} {q : Nat} {v : Nat → Int32} {k T S N : Nat} {i : Nat} (hs : sSt kd R q) (h : aS I0 I q v k T S N) (hi : i < k) (hT0 : 1 ≤ T) (hNb : N + 100 < 2147483000) : jx_Cv E l yX4_movePoint cX4_movePoint 3 none 3 n kd R I [.ref q, .int (nI i)] (fun I' => ∃ N', N ≤ N' ∧ N' ≤ N + 1 ∧ aS I0 I' q (sLook v T i) k T S N') := by
  obtain ⟨b, hb⟩ := h.vi.al hi
  cases b with
  | true => exact c_X4_movePoint_true hs h hi hT0 hNb hb
  | false => exact c_X4_movePoint_false hs h hi hT0 hNb hb
set_option maxRecDepth 100000 in
set_option maxHeartbeats 4000000 in
theorem c_X4_lookAtFlood_true {E : jx_E} {l : Launch} {n : Nat} {kd : jx_K} {R : jx_R} {I0 I : jx_I} {q : Nat} {v : Nat → Int32} {k T S N : Nat} (hs : sSt kd R q) (h : aS I0 I q v k T S N) (hNb : N + 100 < 2147483000) (hb : v 3 = bi true) : jx_Cv E l yX4_lookAtFlood cX4_lookAtFlood 2 none 2 n kd R (I) [.ref q] (fun I' => ∃ N', N ≤ N' ∧ N' ≤ N + 1 ∧ aS I0 I' q (fld v T S) k T S N') := by
  obtain ⟨K0, K1, R0, R1, R2, hF, hL, hP⟩ := id hs
  obtain ⟨FK0, FK1, FR0⟩ := id hF
  obtain ⟨LK0, LK1, LK2, LK3, LR0, LR1, LR2⟩ := id hL
  have h16 := h.vi.k16
  have hT1 := h.vi.tl
  have hS1 := h.vi.sl
  have ht1 := h.vi.t
  refine jx_C0.ofJ RX4 [some (.ref q), none] (by decide) rfl rfl (Nat.le_of_ble_eq_true rfl) rfl ?_
  refine j_aload_n (pc' := 1) dX4_lookAtFlood_0 rfl rfl ?_
  refine j_getR (pc' := 4) f_X4_20 (by assumption) (by assumption) dX4_lookAtFlood_1 rfl ?_
  refine j_aload_n (pc' := 5) dX4_lookAtFlood_4 rfl rfl ?_
  refine j_getIv (pc' := 8) f_X4_46 (by assumption) (by first | (simp (disch := omega) only [jx_upS, jx_upK, jx_upA, h.num, h.tim, h.mod, h.act, h.akt, h.aks, h.f1, h.f2, h.f3, h.f4, h.f5, hb, ht1, pk_us, pk_un]; rfl) | rfl) dX4_lookAtFlood_5 rfl ?_
  refine j_cVi (pc' := 11) m_X4_162 (c_X0_rateAt hF (h.f1.trans h.vi.s) hS1 hT1 h.rg) (by assumption) (by decide) rfl rfl rfl ⟨Nat.le_of_ble_eq_true rfl, Nat.le_of_ble_eq_true rfl⟩ ⟨Nat.zero_le _, Nat.zero_le _⟩ (Nat.le_of_ble_eq_true rfl) dX4_lookAtFlood_8 rfl (fun x1 I1 hq => ?_)
  obtain ⟨rfl, rfl⟩ := hq
  refine j_istore_n (pc' := 12) (lv' := [_, _]) dX4_lookAtFlood_11 rfl (by decide) rfl ?_
  refine j_aload_n (pc' := 13) dX4_lookAtFlood_12 rfl rfl ?_
  refine j_getR (pc' := 16) f_X4_20 (by assumption) (by assumption) dX4_lookAtFlood_13 rfl ?_
  refine j_getIv (pc' := 19) f_X4_166 (by assumption) (by first | (simp (disch := omega) only [jx_upS, jx_upK, jx_upA, h.num, h.tim, h.mod, h.act, h.akt, h.aks, h.f1, h.f2, h.f3, h.f4, h.f5, hb, ht1, pk_us, pk_un]; rfl) | rfl) dX4_lookAtFlood_16 rfl ?_
  first | refine j_if_neB' (tgt := 71) (pc' := 22) (by with_reducible rfl) dX4_lookAtFlood_19 rfl (by decide) (fun c19 => ?_) (fun c19 => ?_) | refine j_if_neN' (tgt := 71) (pc' := 22) (by with_reducible rfl) (by omega) dX4_lookAtFlood_19 rfl (by decide) (fun c19 => ?_) (fun c19 => ?_) | refine j_if_ne (tgt := 71) (pc' := 22) dX4_lookAtFlood_19 rfl (by decide) (fun c19 => ?_) (fun c19 => ?_)
  ·
    refine j_aload_n (pc' := 72) dX4_lookAtFlood_71 rfl rfl ?_
    refine j_getR (pc' := 75) f_X4_20 (by assumption) (by assumption) dX4_lookAtFlood_72 rfl ?_
    refine j_getIv (pc' := 78) f_X4_166 (by assumption) (by first | (simp (disch := omega) only [jx_upS, jx_upK, jx_upA, h.num, h.tim, h.mod, h.act, h.akt, h.aks, h.f1, h.f2, h.f3, h.f4, h.f5, hb, ht1, pk_us, pk_un]; rfl) | rfl) dX4_lookAtFlood_75 rfl ?_
    first | refine j_if_eqB' (tgt := 116) (pc' := 81) (by with_reducible rfl) dX4_lookAtFlood_78 rfl (by decide) (fun c78 => ?_) (fun c78 => ?_) | refine j_if_eqN' (tgt := 116) (pc' := 81) (by with_reducible rfl) (by omega) dX4_lookAtFlood_78 rfl (by decide) (fun c78 => ?_) (fun c78 => ?_) | refine j_if_eq (tgt := 116) (pc' := 81) dX4_lookAtFlood_78 rfl (by decide) (fun c78 => ?_) (fun c78 => ?_)
    ·
      exact absurd c78 (by decide)
    ·
      refine j_iload_n (pc' := 82) dX4_lookAtFlood_81 rfl rfl ?_
      refine j_aload_n (pc' := 83) dX4_lookAtFlood_82 rfl rfl ?_
      refine j_getR (pc' := 86) f_X4_20 (by assumption) (by assumption) dX4_lookAtFlood_83 rfl ?_
      refine j_getIv (pc' := 89) f_X4_110 (by assumption) (by first | (simp (disch := omega) only [jx_upS, jx_upK, jx_upA, h.num, h.tim, h.mod, h.act, h.akt, h.aks, h.f1, h.f2, h.f3, h.f4, h.f5, hb, ht1, pk_us, pk_un]; rfl) | rfl) dX4_lookAtFlood_86 rfl ?_
      first | refine j_icmp_gtN' (tgt := 116) (pc' := 92) (by with_reducible rfl) (by with_reducible rfl) (by omega) (by omega) dX4_lookAtFlood_89 rfl (by decide) (fun c89 => ?_) (fun c89 => ?_) | refine j_icmp_gt (tgt := 116) (pc' := 92) dX4_lookAtFlood_89 rfl (by decide) (fun c89 => ?_) (fun c89 => ?_)
      ·
        skip
        skip
        refine j_retv dX4_lookAtFlood_116 rfl ?_
        exact ⟨N, by omega, by omega, by rw [fld, if_neg (by rw [hb]; decide), if_pos (by rw [hb]; rfl), if_pos c89]; exact h⟩
      ·
        refine j_aload_n (pc' := 93) dX4_lookAtFlood_92 rfl rfl ?_
        refine j_getR (pc' := 96) f_X4_20 (by assumption) (by assumption) dX4_lookAtFlood_93 rfl ?_
        refine j_iconst (pc' := 97) (v := nI 0) dX4_lookAtFlood_96 rfl rfl ?_
        refine j_putI (pc' := 100) f_X4_166 (by assumption) (by first | rfl | exact bi_n _) (by first | rfl | exact bi_fit _) dX4_lookAtFlood_97 rfl ?_
        refine j_gen (h.g4 ⟨false, rfl⟩) (fun I1 h => ?_)
        refine j_aload_n (pc' := 101) dX4_lookAtFlood_100 rfl rfl ?_
        refine j_getR (pc' := 104) f_X4_27 (by assumption) (by assumption) dX4_lookAtFlood_101 rfl ?_
        refine j_aload_n (pc' := 105) dX4_lookAtFlood_104 rfl rfl ?_
        refine j_getIv (pc' := 108) f_X4_46 (by assumption) (by first | (simp (disch := omega) only [jx_upS, jx_upK, jx_upA, h.num, h.tim, h.mod, h.act, h.akt, h.aks, h.f1, h.f2, h.f3, h.f4, h.f5, hb, ht1, pk_us, pk_un]; rfl) | rfl) dX4_lookAtFlood_105 rfl ?_
        refine j_bipush (pc' := 110) (v := nI 7) dX4_lookAtFlood_108 rfl rfl ?_
        refine j_sipush (pc' := 113) (v := -20009) dX4_lookAtFlood_110 rfl rfl ?_
        refine j_cVv (pc' := 116) m_X4_145 (c_X1_write hL (h.lg.1.trans h.vi.n) (by omega)) (by assumption) (by decide) rfl rfl rfl ⟨Nat.le_of_ble_eq_true rfl, Nat.le_of_ble_eq_true rfl⟩ ⟨Nat.zero_le _, Nat.zero_le _⟩ (Nat.le_of_ble_eq_true rfl) dX4_lookAtFlood_113 rfl (fun I1 hq => ?_)
        subst hq
        skip
        refine j_retv dX4_lookAtFlood_116 rfl ?_
        exact ⟨N + 1, by omega, by omega, by rw [fld, if_neg (by rw [hb]; decide), if_pos (by rw [hb]; rfl), if_neg c89]; exact h.hap2 (by omega) (by simp (disch := omega) only [pk_un]; exact ht1)⟩
  ·
    exact absurd c19 (by decide)

set_option maxRecDepth 100000 in
set_option maxHeartbeats 4000000 in
theorem c_X4_lookAtFlood_false {E : jx_E} {l : Launch} {n : Nat} {kd : jx_K} {R : jx_R} {I0 I : jx_I} {q : Nat} {v : Nat → Int32} {k T S N : Nat} (hs : sSt kd R q) (h : aS I0 I q v k T S N) (hNb : N + 100 < 2147483000) (hb : v 3 = bi false) : jx_Cv E l yX4_lookAtFlood cX4_lookAtFlood 2 none 2 n kd R (I) [.ref q] (fun I' => ∃ N', N ≤ N' ∧ N' ≤ N + 1 ∧ aS I0 I' q (fld v T S) k T S N') := by
  obtain ⟨K0, K1, R0, R1, R2, hF, hL, hP⟩ := id hs
  obtain ⟨FK0, FK1, FR0⟩ := id hF
  obtain ⟨LK0, LK1, LK2, LK3, LR0, LR1, LR2⟩ := id hL
  have h16 := h.vi.k16
  have hT1 := h.vi.tl
  have hS1 := h.vi.sl
  have ht1 := h.vi.t
  refine jx_C0.ofJ RX4 [some (.ref q), none] (by decide) rfl rfl (Nat.le_of_ble_eq_true rfl) rfl ?_
  refine j_aload_n (pc' := 1) dX4_lookAtFlood_0 rfl rfl ?_
  refine j_getR (pc' := 4) f_X4_20 (by assumption) (by assumption) dX4_lookAtFlood_1 rfl ?_
  refine j_aload_n (pc' := 5) dX4_lookAtFlood_4 rfl rfl ?_
  refine j_getIv (pc' := 8) f_X4_46 (by assumption) (by first | (simp (disch := omega) only [jx_upS, jx_upK, jx_upA, h.num, h.tim, h.mod, h.act, h.akt, h.aks, h.f1, h.f2, h.f3, h.f4, h.f5, hb, ht1, pk_us, pk_un]; rfl) | rfl) dX4_lookAtFlood_5 rfl ?_
  refine j_cVi (pc' := 11) m_X4_162 (c_X0_rateAt hF (h.f1.trans h.vi.s) hS1 hT1 h.rg) (by assumption) (by decide) rfl rfl rfl ⟨Nat.le_of_ble_eq_true rfl, Nat.le_of_ble_eq_true rfl⟩ ⟨Nat.zero_le _, Nat.zero_le _⟩ (Nat.le_of_ble_eq_true rfl) dX4_lookAtFlood_8 rfl (fun x1 I1 hq => ?_)
  obtain ⟨rfl, rfl⟩ := hq
  refine j_istore_n (pc' := 12) (lv' := [_, _]) dX4_lookAtFlood_11 rfl (by decide) rfl ?_
  refine j_aload_n (pc' := 13) dX4_lookAtFlood_12 rfl rfl ?_
  refine j_getR (pc' := 16) f_X4_20 (by assumption) (by assumption) dX4_lookAtFlood_13 rfl ?_
  refine j_getIv (pc' := 19) f_X4_166 (by assumption) (by first | (simp (disch := omega) only [jx_upS, jx_upK, jx_upA, h.num, h.tim, h.mod, h.act, h.akt, h.aks, h.f1, h.f2, h.f3, h.f4, h.f5, hb, ht1, pk_us, pk_un]; rfl) | rfl) dX4_lookAtFlood_16 rfl ?_
  first | refine j_if_neB' (tgt := 71) (pc' := 22) (by with_reducible rfl) dX4_lookAtFlood_19 rfl (by decide) (fun c19 => ?_) (fun c19 => ?_) | refine j_if_neN' (tgt := 71) (pc' := 22) (by with_reducible rfl) (by omega) dX4_lookAtFlood_19 rfl (by decide) (fun c19 => ?_) (fun c19 => ?_) | refine j_if_ne (tgt := 71) (pc' := 22) dX4_lookAtFlood_19 rfl (by decide) (fun c19 => ?_) (fun c19 => ?_)
  ·
    exact absurd c19 (by decide)
  ·
    refine j_iload_n (pc' := 23) dX4_lookAtFlood_22 rfl rfl ?_
    refine j_aload_n (pc' := 24) dX4_lookAtFlood_23 rfl rfl ?_
    refine j_getR (pc' := 27) f_X4_20 (by assumption) (by assumption) dX4_lookAtFlood_24 rfl ?_
    refine j_getIv (pc' := 30) f_X4_107 (by assumption) (by first | (simp (disch := omega) only [jx_upS, jx_upK, jx_upA, h.num, h.tim, h.mod, h.act, h.akt, h.aks, h.f1, h.f2, h.f3, h.f4, h.f5, hb, ht1, pk_us, pk_un]; rfl) | rfl) dX4_lookAtFlood_27 rfl ?_
    first | refine j_icmp_leN' (tgt := 71) (pc' := 33) (by with_reducible rfl) (by with_reducible rfl) (by omega) (by omega) dX4_lookAtFlood_30 rfl (by decide) (fun c30 => ?_) (fun c30 => ?_) | refine j_icmp_le (tgt := 71) (pc' := 33) dX4_lookAtFlood_30 rfl (by decide) (fun c30 => ?_) (fun c30 => ?_)
    ·
      skip
      refine j_aload_n (pc' := 72) dX4_lookAtFlood_71 rfl rfl ?_
      refine j_getR (pc' := 75) f_X4_20 (by assumption) (by assumption) dX4_lookAtFlood_72 rfl ?_
      refine j_getIv (pc' := 78) f_X4_166 (by assumption) (by first | (simp (disch := omega) only [jx_upS, jx_upK, jx_upA, h.num, h.tim, h.mod, h.act, h.akt, h.aks, h.f1, h.f2, h.f3, h.f4, h.f5, hb, ht1, pk_us, pk_un]; rfl) | rfl) dX4_lookAtFlood_75 rfl ?_
      first | refine j_if_eqB' (tgt := 116) (pc' := 81) (by with_reducible rfl) dX4_lookAtFlood_78 rfl (by decide) (fun c78 => ?_) (fun c78 => ?_) | refine j_if_eqN' (tgt := 116) (pc' := 81) (by with_reducible rfl) (by omega) dX4_lookAtFlood_78 rfl (by decide) (fun c78 => ?_) (fun c78 => ?_) | refine j_if_eq (tgt := 116) (pc' := 81) dX4_lookAtFlood_78 rfl (by decide) (fun c78 => ?_) (fun c78 => ?_)
      ·
        refine j_retv dX4_lookAtFlood_116 rfl ?_
        exact ⟨N, by omega, by omega, by rw [fld, if_pos (by rw [hb]; rfl), if_pos c30]; exact h⟩
      ·
        exact absurd c78 (by decide)
    ·
      refine j_aload_n (pc' := 34) dX4_lookAtFlood_33 rfl rfl ?_
      refine j_getR (pc' := 37) f_X4_20 (by assumption) (by assumption) dX4_lookAtFlood_34 rfl ?_
      refine j_iconst (pc' := 38) (v := nI 1) dX4_lookAtFlood_37 rfl rfl ?_
      refine j_putI (pc' := 41) f_X4_166 (by assumption) (by first | rfl | exact bi_n _) (by first | rfl | exact bi_fit _) dX4_lookAtFlood_38 rfl ?_
      refine j_gen (h.g4 ⟨true, rfl⟩) (fun I1 h => ?_)
      refine j_aload_n (pc' := 42) dX4_lookAtFlood_41 rfl rfl ?_
      refine j_getR (pc' := 45) f_X4_20 (by assumption) (by assumption) dX4_lookAtFlood_42 rfl ?_
      refine j_aload_n (pc' := 46) dX4_lookAtFlood_45 rfl rfl ?_
      refine j_getIv (pc' := 49) f_X4_46 (by assumption) (by first | (simp (disch := omega) only [jx_upS, jx_upK, jx_upA, h.num, h.tim, h.mod, h.act, h.akt, h.aks, h.f1, h.f2, h.f3, h.f4, h.f5, hb, ht1, pk_us, pk_un]; rfl) | rfl) dX4_lookAtFlood_46 rfl ?_
      refine j_putI (pc' := 52) f_X4_169 (by assumption) rfl rfl dX4_lookAtFlood_49 rfl ?_
      refine j_gen (h.g5) (fun I1 h => ?_)
      refine j_aload_n (pc' := 53) dX4_lookAtFlood_52 rfl rfl ?_
      refine j_getR (pc' := 56) f_X4_27 (by assumption) (by assumption) dX4_lookAtFlood_53 rfl ?_
      refine j_aload_n (pc' := 57) dX4_lookAtFlood_56 rfl rfl ?_
      refine j_getIv (pc' := 60) f_X4_46 (by assumption) (by first | (simp (disch := omega) only [jx_upS, jx_upK, jx_upA, h.num, h.tim, h.mod, h.act, h.akt, h.aks, h.f1, h.f2, h.f3, h.f4, h.f5, hb, ht1, pk_us, pk_un]; rfl) | rfl) dX4_lookAtFlood_57 rfl ?_
      refine j_bipush (pc' := 62) (v := nI 6) dX4_lookAtFlood_60 rfl rfl ?_
      refine j_sipush (pc' := 65) (v := -20009) dX4_lookAtFlood_62 rfl rfl ?_
      refine j_cVv (pc' := 68) m_X4_145 (c_X1_write hL (h.lg.1.trans h.vi.n) (by omega)) (by assumption) (by decide) rfl rfl rfl ⟨Nat.le_of_ble_eq_true rfl, Nat.le_of_ble_eq_true rfl⟩ ⟨Nat.zero_le _, Nat.zero_le _⟩ (Nat.le_of_ble_eq_true rfl) dX4_lookAtFlood_65 rfl (fun I1 hq => ?_)
      subst hq
      refine j_gen (h.hap2 (by omega) (by simp (disch := omega) only [pk_un]; exact ht1)) (fun I1 h => ?_)
      refine j_goto (tgt := 116) dX4_lookAtFlood_68 (by decide) ?_
      refine j_retv dX4_lookAtFlood_116 rfl ?_
      exact ⟨N + 1, by omega, by omega, by rw [fld, if_pos (by rw [hb]; rfl), if_neg c30]; exact h⟩

