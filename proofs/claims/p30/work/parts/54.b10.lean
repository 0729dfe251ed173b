set_option maxRecDepth 100000 in
set_option maxHeartbeats 4000000 in
theorem c_X4_isCounted {E : jx_E} {l : Launch} {n : Nat} {kd : jx_K} {R : jx_R} {I0 I : jx_I} {q : Nat} {v : Nat → Int32} {k T S N : Nat} {i w : Nat} {rk : Nat → Nat} (hs : sSt kd R q) (h : aS I0 I q v k T S N) (hi : i < k) (hrk : RK v k rk) (hw : w < 8) : jx_Ci E l yX4_isCounted cX4_isCounted 3 (some .boolean) 4 n kd R (I) [.ref q, .int (nI i), .int (nI w)] (fun r I' => r = (bi (cCount v i w)) ∧ I' = I) := by
  obtain ⟨K0, K1, R0, R1, R2, hF, hL, hP⟩ := id hs
  obtain ⟨FK0, FK1, FR0⟩ := id hF
  obtain ⟨LK0, LK1, LK2, LK3, LR0, LR1, LR2⟩ := id hL
  have h16 := h.vi.k16
  have hT1 := h.vi.tl
  have hS1 := h.vi.sl
  obtain ⟨hRi, hPi⟩ := hP i (by omega)
  obtain ⟨P0, P1, P2, PR0, PR1⟩ := id hPi
  obtain ⟨b9, ha⟩ := h.vi.al hi
  obtain ⟨b10, hb⟩ := h.vi.ak hi
  refine jx_C0.ofJ RX4 [some (.ref q), some (.int (nI i)), some (.int (nI w))] (by decide) rfl rfl (Nat.le_of_ble_eq_true rfl) rfl ?_
  refine j_iload_n (pc' := 1) dX4_isCounted_0 rfl rfl ?_
  by_cases w0 : w = 0
  ·
    subst w0
    refine j_lookup (tgt := 36) (off := 35) dX4_isCounted_1 (by decide) (by decide) (by decide) ?_
    refine j_aload_n (pc' := 37) dX4_isCounted_36 rfl rfl ?_
    refine j_getR (pc' := 40) f_X4_11 (by assumption) (by assumption) dX4_isCounted_37 rfl ?_
    refine j_iload_n (pc' := 41) dX4_isCounted_40 rfl rfl ?_
    first | refine j_aaldP (pc' := 42) (by assumption) rfl (by omega) (by omega) (by first | assumption | (simp (disch := omega) only [h.num, h.tim, h.mod, h.act, h.akt, h.aks, h.f1, h.f2, h.f3, h.f4, h.f5, ha, hb, (h.pt hi).2.2.1, (h.pt hi).2.2.2.1, (h.pt hi).2.2.2.2.1, (h.pt hi).2.2.2.2.2.1, (h.pt hi).2.2.2.2.2.2.1, (h.pt hi).2.2.2.2.2.2.2.1, (h.pt hi).2.2.2.2.2.2.2.2.1, (h.pt hi).2.2.2.2.2.2.2.2.2.1]; done)) dX4_isCounted_41 rfl ?_ | refine j_aaldS (pc' := 42) (by assumption) rfl (by omega) (by omega) (by assumption) dX4_isCounted_41 rfl ?_
    refine j_cVi (pc' := 45) m_X4_178 (c_X2_stands hPi (h.pt hi) ha hb) (by assumption) (by decide) rfl rfl rfl ⟨Nat.le_of_ble_eq_true rfl, Nat.le_of_ble_eq_true rfl⟩ ⟨Nat.zero_le _, Nat.zero_le _⟩ (Nat.le_of_ble_eq_true rfl) dX4_isCounted_42 rfl (fun x1 I1 hq => ?_)
    obtain ⟨rfl, rfl⟩ := hq
    refine j_reti dX4_isCounted_45 rfl (by first | rfl | exact bi_n _) ?_
    exact ⟨rfl, rfl⟩
  by_cases w6 : w = 6
  ·
    subst w6
    refine j_lookup (tgt := 46) (off := 45) dX4_isCounted_1 (by decide) (by decide) (by decide) ?_
    refine j_aload_n (pc' := 47) dX4_isCounted_46 rfl rfl ?_
    refine j_getR (pc' := 50) f_X4_11 (by assumption) (by assumption) dX4_isCounted_47 rfl ?_
    refine j_iload_n (pc' := 51) dX4_isCounted_50 rfl rfl ?_
    first | refine j_aaldP (pc' := 52) (by assumption) rfl (by omega) (by omega) (by first | assumption | (simp (disch := omega) only [h.num, h.tim, h.mod, h.act, h.akt, h.aks, h.f1, h.f2, h.f3, h.f4, h.f5, ha, hb, (h.pt hi).2.2.1, (h.pt hi).2.2.2.1, (h.pt hi).2.2.2.2.1, (h.pt hi).2.2.2.2.2.1, (h.pt hi).2.2.2.2.2.2.1, (h.pt hi).2.2.2.2.2.2.2.1, (h.pt hi).2.2.2.2.2.2.2.2.1, (h.pt hi).2.2.2.2.2.2.2.2.2.1]; done)) dX4_isCounted_51 rfl ?_ | refine j_aaldS (pc' := 52) (by assumption) rfl (by omega) (by omega) (by assumption) dX4_isCounted_51 rfl ?_
    refine j_cVi (pc' := 55) m_X4_87 (c_X2_isShelved hPi (h.pt hi)) (by assumption) (by decide) rfl rfl rfl ⟨Nat.le_of_ble_eq_true rfl, Nat.le_of_ble_eq_true rfl⟩ ⟨Nat.zero_le _, Nat.zero_le _⟩ (Nat.le_of_ble_eq_true rfl) dX4_isCounted_52 rfl (fun x1 I1 hq => ?_)
    obtain ⟨rfl, rfl⟩ := hq
    refine j_reti dX4_isCounted_55 rfl (by first | rfl | exact bi_n _) ?_
    refine ⟨?_, rfl⟩
    unfold cCount
    rw [if_neg (by decide), if_pos rfl]
    exact congrArg bi (decide_eq_decide.mpr Int32.not_le.symm)
  by_cases w7 : w = 7
  ·
    subst w7
    refine j_lookup (tgt := 56) (off := 55) dX4_isCounted_1 (by decide) (by decide) (by decide) ?_
    refine j_aload_n (pc' := 57) dX4_isCounted_56 rfl rfl ?_
    refine j_getR (pc' := 60) f_X4_11 (by assumption) (by assumption) dX4_isCounted_57 rfl ?_
    refine j_iload_n (pc' := 61) dX4_isCounted_60 rfl rfl ?_
    first | refine j_aaldP (pc' := 62) (by assumption) rfl (by omega) (by omega) (by first | assumption | (simp (disch := omega) only [h.num, h.tim, h.mod, h.act, h.akt, h.aks, h.f1, h.f2, h.f3, h.f4, h.f5, ha, hb, (h.pt hi).2.2.1, (h.pt hi).2.2.2.1, (h.pt hi).2.2.2.2.1, (h.pt hi).2.2.2.2.2.1, (h.pt hi).2.2.2.2.2.2.1, (h.pt hi).2.2.2.2.2.2.2.1, (h.pt hi).2.2.2.2.2.2.2.2.1, (h.pt hi).2.2.2.2.2.2.2.2.2.1]; done)) dX4_isCounted_61 rfl ?_ | refine j_aaldS (pc' := 62) (by assumption) rfl (by omega) (by omega) (by assumption) dX4_isCounted_61 rfl ?_
    refine j_getIv (pc' := 65) f_X4_152 (by assumption) (by first | (simp (disch := omega) only [jx_upS, jx_upK, jx_upA, h.num, h.tim, h.mod, h.act, h.akt, h.aks, h.f1, h.f2, h.f3, h.f4, h.f5, ha, hb, (h.pt hi).2.2.1, (h.pt hi).2.2.2.1, (h.pt hi).2.2.2.2.1, (h.pt hi).2.2.2.2.2.1, (h.pt hi).2.2.2.2.2.2.1, (h.pt hi).2.2.2.2.2.2.2.1, (h.pt hi).2.2.2.2.2.2.2.2.1, (h.pt hi).2.2.2.2.2.2.2.2.2.1]; rfl) | rfl) dX4_isCounted_62 rfl ?_
    first | refine j_if_neB' (tgt := 72) (pc' := 68) (by with_reducible rfl) dX4_isCounted_65 rfl (by decide) (fun c65 => ?_) (fun c65 => ?_) | refine j_if_neN' (tgt := 72) (pc' := 68) (by with_reducible rfl) (by omega) dX4_isCounted_65 rfl (by decide) (fun c65 => ?_) (fun c65 => ?_) | refine j_if_ne (tgt := 72) (pc' := 68) dX4_isCounted_65 rfl (by decide) (fun c65 => ?_) (fun c65 => ?_)
    ·
      refine j_iconst (pc' := 73) (v := nI 0) dX4_isCounted_72 rfl rfl ?_
      refine j_reti dX4_isCounted_73 rfl (by first | rfl | exact bi_n _) ?_
      refine ⟨?_, rfl⟩
      unfold cCount
      rw [if_neg (by decide), if_neg (by decide), hb, c65]
      rfl
    ·
      refine j_iconst (pc' := 69) (v := nI 1) dX4_isCounted_68 rfl rfl ?_
      refine j_goto (tgt := 73) dX4_isCounted_69 (by decide) ?_
      refine j_reti dX4_isCounted_73 rfl (by first | rfl | exact bi_n _) ?_
      refine ⟨?_, rfl⟩
      unfold cCount
      rw [if_neg (by decide), if_neg (by decide), hb, c65]
      rfl
  have w15 : w = 1 ∨ w = 2 ∨ w = 3 ∨ w = 4 ∨ w = 5 := by omega
  refine j_lookup (tgt := 74) (off := 73) dX4_isCounted_1 (by decide) (by rcases w15 with rfl | rfl | rfl | rfl | rfl <;> decide) (by decide) ?_
  refine j_aload_n (pc' := 75) dX4_isCounted_74 rfl rfl ?_
  refine j_iload_n (pc' := 76) dX4_isCounted_75 rfl rfl ?_
  refine j_cVi (pc' := 79) m_X4_172 (c_X4_whyHidden hs h hi hrk) (by assumption) (by decide) rfl rfl rfl ⟨Nat.le_of_ble_eq_true rfl, Nat.le_of_ble_eq_true rfl⟩ ⟨Nat.zero_le _, Nat.zero_le _⟩ (Nat.le_of_ble_eq_true rfl) dX4_isCounted_76 rfl (fun x1 I1 hq => ?_)
  obtain ⟨rfl, rfl⟩ := hq
  refine j_iload_n (pc' := 80) dX4_isCounted_79 rfl rfl ?_
  refine j_iconst (pc' := 81) (v := nI 1) dX4_isCounted_80 rfl rfl ?_
  first | refine j_isubN' (pc' := 82) (by with_reducible rfl) (by with_reducible rfl) (by omega) dX4_isCounted_81 rfl ?_ | refine j_isub (pc' := 82) dX4_isCounted_81 rfl ?_
  first | refine j_icmp_neN' (tgt := 89) (pc' := 85) (by with_reducible rfl) (by with_reducible rfl) (by omega) (by omega) dX4_isCounted_82 rfl (by decide) (fun c82 => ?_) (fun c82 => ?_) | refine j_icmp_ne (tgt := 89) (pc' := 85) dX4_isCounted_82 rfl (by decide) (fun c82 => ?_) (fun c82 => ?_)
  ·
    refine j_iconst (pc' := 90) (v := nI 0) dX4_isCounted_89 rfl rfl ?_
    refine j_reti dX4_isCounted_90 rfl (by first | rfl | exact bi_n _) ?_
    refine ⟨?_, rfl⟩
    unfold cCount
    rw [if_pos (by omega), if_neg w0]
    first | exact bi_T (decide_eq_true c82) | exact bi_F (decide_eq_false c82)
  ·
    refine j_iconst (pc' := 86) (v := nI 1) dX4_isCounted_85 rfl rfl ?_
    refine j_goto (tgt := 90) dX4_isCounted_86 (by decide) ?_
    refine j_reti dX4_isCounted_90 rfl (by first | rfl | exact bi_n _) ?_
    refine ⟨?_, rfl⟩
    unfold cCount
    rw [if_pos (by omega), if_neg w0]
    first | exact bi_T (decide_eq_true c82) | exact bi_F (decide_eq_false c82)

def cB (v : Nat → Int32) (i j : Nat) : Bool := if v (176 + 56 * i + 5) = v (176 + 56 * j + 5) then if v (176 + 56 * i + 10) = v (176 + 56 * j + 10) then decide (v (176 + 56 * i + 12) < v (176 + 56 * j + 12)) else decide (v (176 + 56 * j + 10) = nI 1) else decide (v (176 + 56 * i + 5) < v (176 + 56 * j + 5))
theorem sb_0 {a b : Nat} (ha : a < 100000) (hb : b < 100000) : nI a - nI b = 0 ↔ a = b := by
  constructor
  · intro h
    have := congrArg Int32.toInt h
    rw [pk_sub_toInt (by omega) (by omega)] at this
    have z : (0 : Int32).toInt = 0 := rfl
    omega
  · intro h; subst h; exact Int32.sub_self _
theorem sb_n {a b : Nat} (ha : a < 100000) (hb : b < 100000) : nI a - nI b < 0 ↔ a < b := by
  rw [Int32.lt_iff_toInt_lt, pk_sub_toInt (by omega) (by omega)]
  have z : (0 : Int32).toInt = 0 := rfl
  omega
theorem cB_ahead {v : Nat → Int32} {k T S N i j : Nat} (hv : VI v k T S N) (hi : i < k) (hj : j < k) (hji : j < i) : cB v i j = sAhead v i j := by
  obtain ⟨p, _, hp4, hp⟩ := in_nat (show decide (nI 1 ≤ v (176 + 56 * i + 5) ∧ v (176 + 56 * i + 5) ≤ nI 4) = true from hv.st hi (w := 5) (by omega)) (by decide) (by decide)
  obtain ⟨p2, _, hq4, hp2⟩ := in_nat (show decide (nI 1 ≤ v (176 + 56 * j + 5) ∧ v (176 + 56 * j + 5) ≤ nI 4) = true from hv.st hj (w := 5) (by omega)) (by decide) (by decide)
  obtain ⟨a, ha⟩ := hv.ak hi
  obtain ⟨a2, ha2⟩ := hv.ak hj
  obtain ⟨t, ht1, ht⟩ := hv.la hi
  obtain ⟨t2, ht3, ht2⟩ := hv.la hj
  have := hv.tl
  unfold cB sAhead sA3 sA2 sA1
  rw [hp, hp2, ha, ha2, ht, ht2]
  by_cases e1 : p = p2
  · subst e1
    rw [if_pos rfl, if_pos (Int32.sub_self _)]
    cases a <;> cases a2
    · have z1 : bi false - bi false = 0 := by decide
      rw [if_pos rfl, if_pos z1]
      by_cases e : nI t - nI t2 = 0
      · rw [if_pos e]
        have e3 := (sb_0 (by omega) (by omega)).mp e
        subst e3
        rw [decide_eq_false (fun z => Int32.lt_irrefl z), decide_eq_false (by omega)]
      · rw [if_neg e]
        exact decide_eq_decide.mpr ((nI_ltI (by omega) (by omega)).trans (sb_n (by omega) (by omega)).symm)
    · have z1 : ¬ bi false - bi true = 0 := by decide
      have z2 : ¬ bi false = bi true := by decide
      rw [if_neg z2, if_neg z1, if_neg z1]; rfl
    · have z1 : ¬ bi true - bi false = 0 := by decide
      have z2 : ¬ bi true = bi false := by decide
      rw [if_neg z2, if_neg z1, if_neg z1]; rfl
    · have z1 : bi true - bi true = 0 := by decide
      rw [if_pos rfl, if_pos z1]
      by_cases e : nI t - nI t2 = 0
      · rw [if_pos e]
        have e3 := (sb_0 (by omega) (by omega)).mp e
        subst e3
        rw [decide_eq_false (fun z => Int32.lt_irrefl z), decide_eq_false (by omega)]
      · rw [if_neg e]
        exact decide_eq_decide.mpr ((nI_ltI (by omega) (by omega)).trans (sb_n (by omega) (by omega)).symm)
  · have n1 : ¬ nI p = nI p2 := fun z => e1 ((nI_eq (by omega) (by omega)).mp z)
    have n2 : ¬ nI p - nI p2 = 0 := fun z => e1 ((sb_0 (by omega) (by omega)).mp z)
    rw [if_neg n1, if_neg n2, if_neg n2, if_neg n2]
    exact decide_eq_decide.mpr ((nI_ltI (by omega) (by omega)).trans (sb_n (by omega) (by omega)).symm)
theorem aS.self {I : jx_I} {q : Nat} {v : Nat → Int32} {k T S N : Nat} (h : aSt I q v k T) (hv : VI v k T S N) : aS I I q v k T S N := ⟨h, hv, fun _ _ => rfl⟩
theorem vaU {I : jx_I} {a w : Nat} {o : Nat → Int32} {x : Int32} : jx_up (va_up I a o) a w x = va_up I a (upd o w x) := by
  funext b
  by_cases hb : b = a
  · subst hb; simp [jx_up, va_up]
  · simp [jx_up, va_up, hb]
theorem vaI {I : jx_I} {a : Nat} : va_up I a (I a) = I := by
  funext b
  by_cases hb : b = a
  · subst hb; simp [va_up]
  · simp [va_up, hb]

set_option maxRecDepth 100000 in
set_option maxHeartbeats 4000000 in
theorem c_X4_comesBefore {E : jx_E} {l : Launch} {n : Nat} {kd : jx_K} {R : jx_R} {I0 I : jx_I} {q : Nat} {v : Nat → Int32} {k T S N : Nat} {i j : Nat} (hs : sSt kd R q) (h : aS I0 I q v k T S N) (hi : i < k) (hj : j < k) : jx_Ci E l yX4_comesBefore cX4_comesBefore 5 (some .boolean) 0 n kd R (I) [.ref q, .int (nI i), .int (nI j)] (fun r I' => r = (bi (cB v i j)) ∧ I' = I) := by
  obtain ⟨K0, K1, R0, R1, R2, hF, hL, hP⟩ := id hs
  obtain ⟨FK0, FK1, FR0⟩ := id hF
  obtain ⟨LK0, LK1, LK2, LK3, LR0, LR1, LR2⟩ := id hL
  have h16 := h.vi.k16
  have hT1 := h.vi.tl
  have hS1 := h.vi.sl
  obtain ⟨hRi, hPi⟩ := hP i (by omega)
  obtain ⟨P0, P1, P2, PR0, PR1⟩ := id hPi
  obtain ⟨hRj, hPj⟩ := hP j (by omega)
  obtain ⟨P0j, P1j, P2j, PR0j, PR1j⟩ := id hPj
  obtain ⟨bi1, hbi⟩ := h.vi.ak hi
  obtain ⟨bj1, hbj⟩ := h.vi.ak hj
  refine jx_C0.ofJ RX4 [some (.ref q), some (.int (nI i)), some (.int (nI j)), none, none] (by decide) rfl rfl (Nat.le_of_ble_eq_true rfl) rfl ?_
  refine j_aload_n (pc' := 1) dX4_comesBefore_0 rfl rfl ?_
  refine j_getR (pc' := 4) f_X4_11 (by assumption) (by assumption) dX4_comesBefore_1 rfl ?_
  refine j_iload_n (pc' := 5) dX4_comesBefore_4 rfl rfl ?_
  first | refine j_aaldP (pc' := 6) (by assumption) rfl (by omega) (by omega) (by first | assumption | (simp (disch := omega) only [h.num, h.tim, h.mod, h.act, h.akt, h.aks, h.f1, h.f2, h.f3, h.f4, h.f5, hbi, hbj, (h.pt hi).1 5 (by decide), (h.pt hj).1 5 (by decide), (h.pt hi).2.2.1, (h.pt hi).2.2.2.1, (h.pt hi).2.2.2.2.1, (h.pt hi).2.2.2.2.2.1, (h.pt hi).2.2.2.2.2.2.1, (h.pt hi).2.2.2.2.2.2.2.1, (h.pt hi).2.2.2.2.2.2.2.2.1, (h.pt hi).2.2.2.2.2.2.2.2.2.1, (h.pt hj).2.2.1, (h.pt hj).2.2.2.1, (h.pt hj).2.2.2.2.1, (h.pt hj).2.2.2.2.2.1, (h.pt hj).2.2.2.2.2.2.1, (h.pt hj).2.2.2.2.2.2.2.1, (h.pt hj).2.2.2.2.2.2.2.2.1, (h.pt hj).2.2.2.2.2.2.2.2.2.1]; done)) dX4_comesBefore_5 rfl ?_ | refine j_aaldS (pc' := 6) (by assumption) rfl (by omega) (by omega) (by assumption) dX4_comesBefore_5 rfl ?_
  refine j_astore_n (pc' := 7) (lv' := [_, _, _, _, _]) dX4_comesBefore_6 rfl (by decide) rfl ?_
  refine j_aload_n (pc' := 8) dX4_comesBefore_7 rfl rfl ?_
  refine j_getR (pc' := 11) f_X4_11 (by assumption) (by assumption) dX4_comesBefore_8 rfl ?_
  refine j_iload_n (pc' := 12) dX4_comesBefore_11 rfl rfl ?_
  first | refine j_aaldP (pc' := 13) (by assumption) rfl (by omega) (by omega) (by first | assumption | (simp (disch := omega) only [h.num, h.tim, h.mod, h.act, h.akt, h.aks, h.f1, h.f2, h.f3, h.f4, h.f5, hbi, hbj, (h.pt hi).1 5 (by decide), (h.pt hj).1 5 (by decide), (h.pt hi).2.2.1, (h.pt hi).2.2.2.1, (h.pt hi).2.2.2.2.1, (h.pt hi).2.2.2.2.2.1, (h.pt hi).2.2.2.2.2.2.1, (h.pt hi).2.2.2.2.2.2.2.1, (h.pt hi).2.2.2.2.2.2.2.2.1, (h.pt hi).2.2.2.2.2.2.2.2.2.1, (h.pt hj).2.2.1, (h.pt hj).2.2.2.1, (h.pt hj).2.2.2.2.1, (h.pt hj).2.2.2.2.2.1, (h.pt hj).2.2.2.2.2.2.1, (h.pt hj).2.2.2.2.2.2.2.1, (h.pt hj).2.2.2.2.2.2.2.2.1, (h.pt hj).2.2.2.2.2.2.2.2.2.1]; done)) dX4_comesBefore_12 rfl ?_ | refine j_aaldS (pc' := 13) (by assumption) rfl (by omega) (by omega) (by assumption) dX4_comesBefore_12 rfl ?_
  refine j_astore (pc' := 15) (lv' := [_, _, _, _, _]) dX4_comesBefore_13 rfl (by decide) rfl ?_
  refine j_aload_n (pc' := 16) dX4_comesBefore_15 rfl rfl ?_
  refine j_getR (pc' := 19) f_X4_80 (by assumption) (by assumption) dX4_comesBefore_16 rfl ?_
  refine j_iconst (pc' := 20) (v := nI 5) dX4_comesBefore_19 rfl rfl ?_
  refine j_ialdv (pc' := 21) (by assumption) rfl (by omega) (by omega) (by first | (simp (disch := omega) only [jx_upS, jx_upK, jx_upA, h.num, h.tim, h.mod, h.act, h.akt, h.aks, h.f1, h.f2, h.f3, h.f4, h.f5, hbi, hbj, (h.pt hi).1 5 (by decide), (h.pt hj).1 5 (by decide), (h.pt hi).2.2.1, (h.pt hi).2.2.2.1, (h.pt hi).2.2.2.2.1, (h.pt hi).2.2.2.2.2.1, (h.pt hi).2.2.2.2.2.2.1, (h.pt hi).2.2.2.2.2.2.2.1, (h.pt hi).2.2.2.2.2.2.2.2.1, (h.pt hi).2.2.2.2.2.2.2.2.2.1, (h.pt hj).2.2.1, (h.pt hj).2.2.2.1, (h.pt hj).2.2.2.2.1, (h.pt hj).2.2.2.2.2.1, (h.pt hj).2.2.2.2.2.2.1, (h.pt hj).2.2.2.2.2.2.2.1, (h.pt hj).2.2.2.2.2.2.2.2.1, (h.pt hj).2.2.2.2.2.2.2.2.2.1]; rfl) | rfl) dX4_comesBefore_20 rfl ?_
  refine j_aload (pc' := 23) dX4_comesBefore_21 rfl rfl ?_
  refine j_getR (pc' := 26) f_X4_80 (by assumption) (by assumption) dX4_comesBefore_23 rfl ?_
  refine j_iconst (pc' := 27) (v := nI 5) dX4_comesBefore_26 rfl rfl ?_
  refine j_ialdv (pc' := 28) (by assumption) rfl (by omega) (by omega) (by first | (simp (disch := omega) only [jx_upS, jx_upK, jx_upA, h.num, h.tim, h.mod, h.act, h.akt, h.aks, h.f1, h.f2, h.f3, h.f4, h.f5, hbi, hbj, (h.pt hi).1 5 (by decide), (h.pt hj).1 5 (by decide), (h.pt hi).2.2.1, (h.pt hi).2.2.2.1, (h.pt hi).2.2.2.2.1, (h.pt hi).2.2.2.2.2.1, (h.pt hi).2.2.2.2.2.2.1, (h.pt hi).2.2.2.2.2.2.2.1, (h.pt hi).2.2.2.2.2.2.2.2.1, (h.pt hi).2.2.2.2.2.2.2.2.2.1, (h.pt hj).2.2.1, (h.pt hj).2.2.2.1, (h.pt hj).2.2.2.2.1, (h.pt hj).2.2.2.2.2.1, (h.pt hj).2.2.2.2.2.2.1, (h.pt hj).2.2.2.2.2.2.2.1, (h.pt hj).2.2.2.2.2.2.2.2.1, (h.pt hj).2.2.2.2.2.2.2.2.2.1]; rfl) | rfl) dX4_comesBefore_27 rfl ?_
  first | refine j_icmp_eqN' (tgt := 53) (pc' := 31) (by with_reducible rfl) (by with_reducible rfl) (by omega) (by omega) dX4_comesBefore_28 rfl (by decide) (fun c28 => ?_) (fun c28 => ?_) | refine j_icmp_eq (tgt := 53) (pc' := 31) dX4_comesBefore_28 rfl (by decide) (fun c28 => ?_) (fun c28 => ?_)
  ·
    skip
    refine j_aload_n (pc' := 54) dX4_comesBefore_53 rfl rfl ?_
    refine j_getIv (pc' := 57) f_X4_152 (by assumption) (by first | (simp (disch := omega) only [jx_upS, jx_upK, jx_upA, h.num, h.tim, h.mod, h.act, h.akt, h.aks, h.f1, h.f2, h.f3, h.f4, h.f5, hbi, hbj, (h.pt hi).1 5 (by decide), (h.pt hj).1 5 (by decide), (h.pt hi).2.2.1, (h.pt hi).2.2.2.1, (h.pt hi).2.2.2.2.1, (h.pt hi).2.2.2.2.2.1, (h.pt hi).2.2.2.2.2.2.1, (h.pt hi).2.2.2.2.2.2.2.1, (h.pt hi).2.2.2.2.2.2.2.2.1, (h.pt hi).2.2.2.2.2.2.2.2.2.1, (h.pt hj).2.2.1, (h.pt hj).2.2.2.1, (h.pt hj).2.2.2.2.1, (h.pt hj).2.2.2.2.2.1, (h.pt hj).2.2.2.2.2.2.1, (h.pt hj).2.2.2.2.2.2.2.1, (h.pt hj).2.2.2.2.2.2.2.2.1, (h.pt hj).2.2.2.2.2.2.2.2.2.1]; rfl) | rfl) dX4_comesBefore_54 rfl ?_
    refine j_aload (pc' := 59) dX4_comesBefore_57 rfl rfl ?_
    refine j_getIv (pc' := 62) f_X4_152 (by assumption) (by first | (simp (disch := omega) only [jx_upS, jx_upK, jx_upA, h.num, h.tim, h.mod, h.act, h.akt, h.aks, h.f1, h.f2, h.f3, h.f4, h.f5, hbi, hbj, (h.pt hi).1 5 (by decide), (h.pt hj).1 5 (by decide), (h.pt hi).2.2.1, (h.pt hi).2.2.2.1, (h.pt hi).2.2.2.2.1, (h.pt hi).2.2.2.2.2.1, (h.pt hi).2.2.2.2.2.2.1, (h.pt hi).2.2.2.2.2.2.2.1, (h.pt hi).2.2.2.2.2.2.2.2.1, (h.pt hi).2.2.2.2.2.2.2.2.2.1, (h.pt hj).2.2.1, (h.pt hj).2.2.2.1, (h.pt hj).2.2.2.2.1, (h.pt hj).2.2.2.2.2.1, (h.pt hj).2.2.2.2.2.2.1, (h.pt hj).2.2.2.2.2.2.2.1, (h.pt hj).2.2.2.2.2.2.2.2.1, (h.pt hj).2.2.2.2.2.2.2.2.2.1]; rfl) | rfl) dX4_comesBefore_59 rfl ?_
    first | refine j_icmp_eqN' (tgt := 71) (pc' := 65) (by with_reducible rfl) (by with_reducible rfl) (by omega) (by omega) dX4_comesBefore_62 rfl (by decide) (fun c62 => ?_) (fun c62 => ?_) | refine j_icmp_eq (tgt := 71) (pc' := 65) dX4_comesBefore_62 rfl (by decide) (fun c62 => ?_) (fun c62 => ?_)
    ·
      skip
      refine j_aload_n (pc' := 72) dX4_comesBefore_71 rfl rfl ?_
      refine j_getIv (pc' := 75) f_X4_155 (by assumption) (by first | (simp (disch := omega) only [jx_upS, jx_upK, jx_upA, h.num, h.tim, h.mod, h.act, h.akt, h.aks, h.f1, h.f2, h.f3, h.f4, h.f5, hbi, hbj, (h.pt hi).1 5 (by decide), (h.pt hj).1 5 (by decide), (h.pt hi).2.2.1, (h.pt hi).2.2.2.1, (h.pt hi).2.2.2.2.1, (h.pt hi).2.2.2.2.2.1, (h.pt hi).2.2.2.2.2.2.1, (h.pt hi).2.2.2.2.2.2.2.1, (h.pt hi).2.2.2.2.2.2.2.2.1, (h.pt hi).2.2.2.2.2.2.2.2.2.1, (h.pt hj).2.2.1, (h.pt hj).2.2.2.1, (h.pt hj).2.2.2.2.1, (h.pt hj).2.2.2.2.2.1, (h.pt hj).2.2.2.2.2.2.1, (h.pt hj).2.2.2.2.2.2.2.1, (h.pt hj).2.2.2.2.2.2.2.2.1, (h.pt hj).2.2.2.2.2.2.2.2.2.1]; rfl) | rfl) dX4_comesBefore_72 rfl ?_
      refine j_aload (pc' := 77) dX4_comesBefore_75 rfl rfl ?_
      refine j_getIv (pc' := 80) f_X4_155 (by assumption) (by first | (simp (disch := omega) only [jx_upS, jx_upK, jx_upA, h.num, h.tim, h.mod, h.act, h.akt, h.aks, h.f1, h.f2, h.f3, h.f4, h.f5, hbi, hbj, (h.pt hi).1 5 (by decide), (h.pt hj).1 5 (by decide), (h.pt hi).2.2.1, (h.pt hi).2.2.2.1, (h.pt hi).2.2.2.2.1, (h.pt hi).2.2.2.2.2.1, (h.pt hi).2.2.2.2.2.2.1, (h.pt hi).2.2.2.2.2.2.2.1, (h.pt hi).2.2.2.2.2.2.2.2.1, (h.pt hi).2.2.2.2.2.2.2.2.2.1, (h.pt hj).2.2.1, (h.pt hj).2.2.2.1, (h.pt hj).2.2.2.2.1, (h.pt hj).2.2.2.2.2.1, (h.pt hj).2.2.2.2.2.2.1, (h.pt hj).2.2.2.2.2.2.2.1, (h.pt hj).2.2.2.2.2.2.2.2.1, (h.pt hj).2.2.2.2.2.2.2.2.2.1]; rfl) | rfl) dX4_comesBefore_77 rfl ?_
      first | refine j_icmp_geN' (tgt := 87) (pc' := 83) (by with_reducible rfl) (by with_reducible rfl) (by omega) (by omega) dX4_comesBefore_80 rfl (by decide) (fun c80 => ?_) (fun c80 => ?_) | refine j_icmp_ge (tgt := 87) (pc' := 83) dX4_comesBefore_80 rfl (by decide) (fun c80 => ?_) (fun c80 => ?_)
      ·
        refine j_iconst (pc' := 88) (v := nI 0) dX4_comesBefore_87 rfl rfl ?_
        refine j_reti dX4_comesBefore_88 rfl (by first | rfl | exact bi_n _) ?_
        refine ⟨?_, rfl⟩
        unfold cB
        rw [if_pos c28, if_pos (by rw [hbi, hbj]; exact c62)]
        first | exact bi_F (decide_eq_false (Int32.not_lt.mpr c80)) | exact bi_T (decide_eq_true (Int32.not_le.mp c80))
      ·
        refine j_iconst (pc' := 84) (v := nI 1) dX4_comesBefore_83 rfl rfl ?_
        refine j_goto (tgt := 88) dX4_comesBefore_84 (by decide) ?_
        refine j_reti dX4_comesBefore_88 rfl (by first | rfl | exact bi_n _) ?_
        refine ⟨?_, rfl⟩
        unfold cB
        rw [if_pos c28, if_pos (by rw [hbi, hbj]; exact c62)]
        first | exact bi_F (decide_eq_false (Int32.not_lt.mpr c80)) | exact bi_T (decide_eq_true (Int32.not_le.mp c80))
    ·
      refine j_aload (pc' := 67) dX4_comesBefore_65 rfl rfl ?_
      refine j_getIv (pc' := 70) f_X4_152 (by assumption) (by first | (simp (disch := omega) only [jx_upS, jx_upK, jx_upA, h.num, h.tim, h.mod, h.act, h.akt, h.aks, h.f1, h.f2, h.f3, h.f4, h.f5, hbi, hbj, (h.pt hi).1 5 (by decide), (h.pt hj).1 5 (by decide), (h.pt hi).2.2.1, (h.pt hi).2.2.2.1, (h.pt hi).2.2.2.2.1, (h.pt hi).2.2.2.2.2.1, (h.pt hi).2.2.2.2.2.2.1, (h.pt hi).2.2.2.2.2.2.2.1, (h.pt hi).2.2.2.2.2.2.2.2.1, (h.pt hi).2.2.2.2.2.2.2.2.2.1, (h.pt hj).2.2.1, (h.pt hj).2.2.2.1, (h.pt hj).2.2.2.2.1, (h.pt hj).2.2.2.2.2.1, (h.pt hj).2.2.2.2.2.2.1, (h.pt hj).2.2.2.2.2.2.2.1, (h.pt hj).2.2.2.2.2.2.2.2.1, (h.pt hj).2.2.2.2.2.2.2.2.2.1]; rfl) | rfl) dX4_comesBefore_67 rfl ?_
      refine j_reti dX4_comesBefore_70 rfl (by first | rfl | exact bi_n _) ?_
      refine ⟨?_, rfl⟩
      unfold cB
      rw [if_pos c28, if_neg (by rw [hbi, hbj]; exact c62), hbj]
      cases bj1 <;> rfl
  ·
    refine j_aload_n (pc' := 32) dX4_comesBefore_31 rfl rfl ?_
    refine j_getR (pc' := 35) f_X4_80 (by assumption) (by assumption) dX4_comesBefore_32 rfl ?_
    refine j_iconst (pc' := 36) (v := nI 5) dX4_comesBefore_35 rfl rfl ?_
    refine j_ialdv (pc' := 37) (by assumption) rfl (by omega) (by omega) (by first | (simp (disch := omega) only [jx_upS, jx_upK, jx_upA, h.num, h.tim, h.mod, h.act, h.akt, h.aks, h.f1, h.f2, h.f3, h.f4, h.f5, hbi, hbj, (h.pt hi).1 5 (by decide), (h.pt hj).1 5 (by decide), (h.pt hi).2.2.1, (h.pt hi).2.2.2.1, (h.pt hi).2.2.2.2.1, (h.pt hi).2.2.2.2.2.1, (h.pt hi).2.2.2.2.2.2.1, (h.pt hi).2.2.2.2.2.2.2.1, (h.pt hi).2.2.2.2.2.2.2.2.1, (h.pt hi).2.2.2.2.2.2.2.2.2.1, (h.pt hj).2.2.1, (h.pt hj).2.2.2.1, (h.pt hj).2.2.2.2.1, (h.pt hj).2.2.2.2.2.1, (h.pt hj).2.2.2.2.2.2.1, (h.pt hj).2.2.2.2.2.2.2.1, (h.pt hj).2.2.2.2.2.2.2.2.1, (h.pt hj).2.2.2.2.2.2.2.2.2.1]; rfl) | rfl) dX4_comesBefore_36 rfl ?_
    refine j_aload (pc' := 39) dX4_comesBefore_37 rfl rfl ?_
    refine j_getR (pc' := 42) f_X4_80 (by assumption) (by assumption) dX4_comesBefore_39 rfl ?_
    refine j_iconst (pc' := 43) (v := nI 5) dX4_comesBefore_42 rfl rfl ?_
    refine j_ialdv (pc' := 44) (by assumption) rfl (by omega) (by omega) (by first | (simp (disch := omega) only [jx_upS, jx_upK, jx_upA, h.num, h.tim, h.mod, h.act, h.akt, h.aks, h.f1, h.f2, h.f3, h.f4, h.f5, hbi, hbj, (h.pt hi).1 5 (by decide), (h.pt hj).1 5 (by decide), (h.pt hi).2.2.1, (h.pt hi).2.2.2.1, (h.pt hi).2.2.2.2.1, (h.pt hi).2.2.2.2.2.1, (h.pt hi).2.2.2.2.2.2.1, (h.pt hi).2.2.2.2.2.2.2.1, (h.pt hi).2.2.2.2.2.2.2.2.1, (h.pt hi).2.2.2.2.2.2.2.2.2.1, (h.pt hj).2.2.1, (h.pt hj).2.2.2.1, (h.pt hj).2.2.2.2.1, (h.pt hj).2.2.2.2.2.1, (h.pt hj).2.2.2.2.2.2.1, (h.pt hj).2.2.2.2.2.2.2.1, (h.pt hj).2.2.2.2.2.2.2.2.1, (h.pt hj).2.2.2.2.2.2.2.2.2.1]; rfl) | rfl) dX4_comesBefore_43 rfl ?_
    first | refine j_icmp_geN' (tgt := 51) (pc' := 47) (by with_reducible rfl) (by with_reducible rfl) (by omega) (by omega) dX4_comesBefore_44 rfl (by decide) (fun c44 => ?_) (fun c44 => ?_) | refine j_icmp_ge (tgt := 51) (pc' := 47) dX4_comesBefore_44 rfl (by decide) (fun c44 => ?_) (fun c44 => ?_)
    ·
      refine j_iconst (pc' := 52) (v := nI 0) dX4_comesBefore_51 rfl rfl ?_
      refine j_reti dX4_comesBefore_52 rfl (by first | rfl | exact bi_n _) ?_
      refine ⟨?_, rfl⟩
      unfold cB
      rw [if_neg c28]
      first | exact bi_F (decide_eq_false (Int32.not_lt.mpr c44)) | exact bi_T (decide_eq_true (Int32.not_le.mp c44))
    ·
      refine j_iconst (pc' := 48) (v := nI 1) dX4_comesBefore_47 rfl rfl ?_
      refine j_goto (tgt := 52) dX4_comesBefore_48 (by decide) ?_
      refine j_reti dX4_comesBefore_52 rfl (by first | rfl | exact bi_n _) ?_
      refine ⟨?_, rfl⟩
      unfold cB
      rw [if_neg c28]
      first | exact bi_F (decide_eq_false (Int32.not_lt.mpr c44)) | exact bi_T (decide_eq_true (Int32.not_le.mp c44))

