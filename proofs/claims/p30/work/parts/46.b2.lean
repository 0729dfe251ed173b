theorem j_gen {I0 : jx_I} {q : Nat} {v : Nat → Int32} {k T S N : Nat} {E : jx_E} {l : Launch} {cd : ByteArray} {nL : Nat} {ret : Option FieldType} {own : String} {ini : Bool} {Rm : Room} {mc ms : Nat} {Q : jx_Q} {cells slots n : Nat} {kd : jx_K} {R : jx_R} {pc : Nat} {lv : List (Option Value)} {st : List Value} {I : jx_I} (hI : aS I0 I q v k T S N) (kk : ∀ I1, aS I0 I1 q v k T S N → jx_J E l cd nL ret own ini Rm mc ms Q cells slots n kd R I1 pc lv st) : jx_J E l cd nL ret own ini Rm mc ms Q cells slots n kd R I pc lv st := kk I hI
theorem aS.q6 {I0 I : jx_I} {q : Nat} {v : Nat → Int32} {k T S N : Nat} {x : Int32} (h : aS I0 I q v k T S N) : aS I0 (jx_up I q 6 x) q (upd v 8 x) k T S N :=
  ⟨aSt_q h.1 (fun b hb => funext fun _ => jx_upA hb) (fun j _ _ _ _ => pk_un (by omega)) (by simp (disch := omega) only [jx_upS, jx_upK, pk_us, pk_un]; exact ⟨h.num, h.tim, h.mod, trivial, h.akt, h.aks⟩), h.vi.lo (by omega) (by omega), h.fr.up (by omega) (by omega)⟩
theorem aS.q7 {I0 I : jx_I} {q : Nat} {v : Nat → Int32} {k T S N : Nat} {x : Int32} (h : aS I0 I q v k T S N) : aS I0 (jx_up I q 7 x) q (upd v 10 x) k T S N :=
  ⟨aSt_q h.1 (fun b hb => funext fun _ => jx_upA hb) (fun j _ _ _ _ => pk_un (by omega)) (by simp (disch := omega) only [jx_upS, jx_upK, pk_us, pk_un]; exact ⟨h.num, h.tim, h.mod, h.act, trivial, h.aks⟩), h.vi.lo (by omega) (by omega), h.fr.up (by omega) (by omega)⟩
theorem aS.q8 {I0 I : jx_I} {q : Nat} {v : Nat → Int32} {k T S N : Nat} {x : Int32} (h : aS I0 I q v k T S N) : aS I0 (jx_up I q 8 x) q (upd v 11 x) k T S N :=
  ⟨aSt_q h.1 (fun b hb => funext fun _ => jx_upA hb) (fun j _ _ _ _ => pk_un (by omega)) (by simp (disch := omega) only [jx_upS, jx_upK, pk_us, pk_un]; exact ⟨h.num, h.tim, h.mod, h.act, h.akt, trivial⟩), h.vi.lo (by omega) (by omega), h.fr.up (by omega) (by omega)⟩
theorem aS.q5 {I0 I : jx_I} {q : Nat} {v : Nat → Int32} {k T S N : Nat} {x : Int32} {w : Nat} (h : aS I0 I q v k T S N) (hw : w ≤ 3) (hx : x = nI w) : aS I0 (jx_up I q 5 x) q (upd v 2 x) k T S N :=
  ⟨aSt_q h.1 (fun b hb => funext fun _ => jx_upA hb) (fun j _ _ _ _ => pk_un (by omega)) (by simp (disch := omega) only [jx_upS, jx_upK, pk_us, pk_un]; exact ⟨h.num, h.tim, trivial, h.act, h.akt, h.aks⟩), h.vi.w2 hw hx, h.fr.up (by omega) (by omega)⟩
theorem aS.g1 {I0 I : jx_I} {q : Nat} {v : Nat → Int32} {k T S N : Nat} {x : Int32} {w : Nat} (h : aS I0 I q v k T S N) (hw : w ≤ 60) (hx : x = nI w) : aS I0 (jx_up I (q + 2) 1 x) q (upd v 5 x) k T w N :=
  ⟨aSt_f h.1 (fun b hb => funext fun _ => jx_upA hb) (fun j _ => pk_un (by omega)) (by simp (disch := omega) only [jx_upS, jx_upK, pk_us, pk_un]; exact ⟨trivial, h.f2, h.f3, h.f4, h.f5⟩), h.vi.w5 hw hx, h.fr.up (by omega) (by omega)⟩
theorem aS.g2 {I0 I : jx_I} {q : Nat} {v : Nat → Int32} {k T S N : Nat} {x : Int32} (h : aS I0 I q v k T S N) : aS I0 (jx_up I (q + 2) 2 x) q (upd v 6 x) k T S N :=
  ⟨aSt_f h.1 (fun b hb => funext fun _ => jx_upA hb) (fun j _ => pk_un (by omega)) (by simp (disch := omega) only [jx_upS, jx_upK, pk_us, pk_un]; exact ⟨h.f1, trivial, h.f3, h.f4, h.f5⟩), h.vi.lo (by omega) (by omega), h.fr.up (by omega) (by omega)⟩
theorem aS.g3 {I0 I : jx_I} {q : Nat} {v : Nat → Int32} {k T S N : Nat} {x : Int32} (h : aS I0 I q v k T S N) : aS I0 (jx_up I (q + 2) 3 x) q (upd v 7 x) k T S N :=
  ⟨aSt_f h.1 (fun b hb => funext fun _ => jx_upA hb) (fun j _ => pk_un (by omega)) (by simp (disch := omega) only [jx_upS, jx_upK, pk_us, pk_un]; exact ⟨h.f1, h.f2, trivial, h.f4, h.f5⟩), h.vi.lo (by omega) (by omega), h.fr.up (by omega) (by omega)⟩
theorem aS.g4 {I0 I : jx_I} {q : Nat} {v : Nat → Int32} {k T S N : Nat} {x : Int32} (h : aS I0 I q v k T S N) (hx : ∃ b, x = bi b) : aS I0 (jx_up I (q + 2) 4 x) q (upd v 3 x) k T S N :=
  ⟨aSt_f h.1 (fun b hb => funext fun _ => jx_upA hb) (fun j _ => pk_un (by omega)) (by simp (disch := omega) only [jx_upS, jx_upK, pk_us, pk_un]; exact ⟨h.f1, h.f2, h.f3, trivial, h.f5⟩), h.vi.w3 hx, h.fr.up (by omega) (by omega)⟩
theorem aS.g5 {I0 I : jx_I} {q : Nat} {v : Nat → Int32} {k T S N : Nat} {x : Int32} (h : aS I0 I q v k T S N) : aS I0 (jx_up I (q + 2) 5 x) q (upd v 4 x) k T S N :=
  ⟨aSt_f h.1 (fun b hb => funext fun _ => jx_upA hb) (fun j _ => pk_un (by omega)) (by simp (disch := omega) only [jx_upS, jx_upK, pk_us, pk_un]; exact ⟨h.f1, h.f2, h.f3, h.f4, trivial⟩), h.vi.lo (by omega) (by omega), h.fr.up (by omega) (by omega)⟩
set_option maxRecDepth 100000 in
set_option maxHeartbeats 4000000 in
theorem c_X4_hasPoint {E : jx_E} {l : Launch} {n : Nat} {kd : jx_K} {R : jx_R} {I0 I : jx_I} {q : Nat} {v : Nat → Int32} {k T S N : Nat} {x : Int32} (hs : sSt kd R q) (h : aS I0 I q v k T S N) : jx_Ci E l yX4_hasPoint cX4_hasPoint 2 (some .boolean) 1 n kd R (I) [.ref q, .int x] (fun r I' => r = (bi (okP v x)) ∧ I' = I) := by
  obtain ⟨K0, K1, R0, R1, R2, hF, hL, hP⟩ := id hs
  obtain ⟨FK0, FK1, FR0⟩ := id hF
  obtain ⟨LK0, LK1, LK2, LK3, LR0, LR1, LR2⟩ := id hL
  have h16 := h.vi.k16
  have hT1 := h.vi.tl
  have hS1 := h.vi.sl
  refine jx_C0.ofJ RX4 [some (.ref q), some (.int x)] (by decide) rfl rfl (Nat.le_of_ble_eq_true rfl) rfl ?_
  refine j_iload_n (pc' := 1) dX4_hasPoint_0 rfl rfl ?_
  refine j_iconst (pc' := 2) (v := nI 0) dX4_hasPoint_1 rfl rfl ?_
  refine j_aload_n (pc' := 3) dX4_hasPoint_2 rfl rfl ?_
  refine j_getIv (pc' := 6) f_X4_32 (by assumption) (by first | (simp (disch := omega) only [jx_upS, jx_upK, jx_upA, h.num]; rfl) | rfl) dX4_hasPoint_3 rfl ?_
  refine j_iconst (pc' := 7) (v := nI 1) dX4_hasPoint_6 rfl rfl ?_
  refine j_isub (pc' := 8) dX4_hasPoint_7 rfl ?_
  refine j_cSNi (pc' := 11) m_X4_61 (c_X5_isIn _ _ _ _ _ _ _ _ _) rfl rfl ⟨Nat.le_of_ble_eq_true rfl, Nat.le_of_ble_eq_true rfl⟩ ⟨Nat.zero_le _, Nat.zero_le _⟩ (Nat.le_of_ble_eq_true rfl) dX4_hasPoint_8 rfl (fun x1 I1 hq => ?_)
  obtain ⟨rfl, rfl⟩ := hq
  refine j_reti dX4_hasPoint_11 rfl (by first | rfl | exact bi_n _) ?_
  exact ⟨rfl, rfl⟩

set_option maxRecDepth 100000 in
set_option maxHeartbeats 4000000 in
theorem c_X4_changeMode {E : jx_E} {l : Launch} {n : Nat} {kd : jx_K} {R : jx_R} {I0 I : jx_I} {q : Nat} {v : Nat → Int32} {k T S N : Nat} {x : Int32} (hs : sSt kd R q) (h : aS I0 I q v k T S N)  : jx_Ci E l yX4_changeMode cX4_changeMode 3 (some .int) 1 n kd R (I) [.ref q, .int x] (fun r I' => r = (fMod v x).1 ∧ aS I0 I' q (fMod v x).2 k T S N) := by
  obtain ⟨K0, K1, R0, R1, R2, hF, hL, hP⟩ := id hs
  obtain ⟨FK0, FK1, FR0⟩ := id hF
  obtain ⟨LK0, LK1, LK2, LK3, LR0, LR1, LR2⟩ := id hL
  have h16 := h.vi.k16
  have hT1 := h.vi.tl
  have hS1 := h.vi.sl
  refine jx_C0.ofJ RX4 [some (.ref q), some (.int x), none] (by decide) rfl rfl (Nat.le_of_ble_eq_true rfl) rfl ?_
  refine j_iload_n (pc' := 1) dX4_changeMode_0 rfl rfl ?_
  refine j_iconst (pc' := 2) (v := nI 0) dX4_changeMode_1 rfl rfl ?_
  refine j_iconst (pc' := 3) (v := nI 3) dX4_changeMode_2 rfl rfl ?_
  refine j_cSNi (pc' := 6) m_X4_61 (c_X5_isIn _ _ _ _ _ _ _ _ _) rfl rfl ⟨Nat.le_of_ble_eq_true rfl, Nat.le_of_ble_eq_true rfl⟩ ⟨Nat.zero_le _, Nat.zero_le _⟩ (Nat.le_of_ble_eq_true rfl) dX4_changeMode_3 rfl (fun x1 I1 hq => ?_)
  obtain ⟨rfl, rfl⟩ := hq
  first | refine j_if_neB' (tgt := 13) (pc' := 9) (by with_reducible rfl) dX4_changeMode_6 rfl (by decide) (fun c6 => ?_) (fun c6 => ?_) | refine j_if_neN' (tgt := 13) (pc' := 9) (by with_reducible rfl) (by omega) dX4_changeMode_6 rfl (by decide) (fun c6 => ?_) (fun c6 => ?_) | refine j_if_ne (tgt := 13) (pc' := 9) dX4_changeMode_6 rfl (by decide) (fun c6 => ?_) (fun c6 => ?_)
  ·
    refine j_aload_n (pc' := 14) dX4_changeMode_13 rfl rfl ?_
    refine j_getIv (pc' := 17) f_X4_49 (by assumption) (by first | (simp (disch := omega) only [jx_upS, jx_upK, jx_upA, h.num, h.tim, h.mod, h.act, h.akt, h.aks, h.f1, h.f2, h.f3, h.f4, h.f5]; rfl) | rfl) dX4_changeMode_14 rfl ?_
    refine j_istore_n (pc' := 18) (lv' := [_, _, _]) dX4_changeMode_17 rfl (by decide) rfl ?_
    refine j_aload_n (pc' := 19) dX4_changeMode_18 rfl rfl ?_
    refine j_iload_n (pc' := 20) dX4_changeMode_19 rfl rfl ?_
    refine j_putI (pc' := 23) f_X4_49 (by assumption) rfl rfl dX4_changeMode_20 rfl ?_
    obtain ⟨w, _, hw2, hw3⟩ := in_nat c6 (by omega) (by omega)
    refine j_gen (aS.q5 h hw2 hw3) (fun I1 h => ?_)
    refine j_iload_n (pc' := 24) dX4_changeMode_23 rfl rfl ?_
    refine j_reti dX4_changeMode_24 rfl (by first | rfl | exact bi_n _) ?_
    unfold fMod
    first | rw [if_pos c6] | rw [if_neg c6] | rw [if_neg (by rw [c6]; decide)] | skip
    exact ⟨rfl, h⟩
  ·
    refine j_sipush (pc' := 12) (v := -20001) dX4_changeMode_9 rfl rfl ?_
    refine j_reti dX4_changeMode_12 rfl (by first | rfl | exact bi_n _) ?_
    unfold fMod
    first | rw [if_pos c6] | rw [if_neg c6] | rw [if_neg (by rw [c6]; decide)] | skip
    exact ⟨rfl, h⟩

set_option maxRecDepth 100000 in
set_option maxHeartbeats 4000000 in
theorem c_X4_changeValue {E : jx_E} {l : Launch} {n : Nat} {kd : jx_K} {R : jx_R} {I0 I : jx_I} {q : Nat} {v : Nat → Int32} {k T S N : Nat} {x y : Int32} (hs : sSt kd R q) (h : aS I0 I q v k T S N)  : jx_Ci E l yX4_changeValue cX4_changeValue 4 (some .int) 2 n kd R (I) [.ref q, .int x, .int y] (fun r I' => r = (fVal v x y).1 ∧ aS I0 I' q (fVal v x y).2 k T S N) := by
  obtain ⟨K0, K1, R0, R1, R2, hF, hL, hP⟩ := id hs
  obtain ⟨FK0, FK1, FR0⟩ := id hF
  obtain ⟨LK0, LK1, LK2, LK3, LR0, LR1, LR2⟩ := id hL
  have h16 := h.vi.k16
  have hT1 := h.vi.tl
  have hS1 := h.vi.sl
  refine jx_C0.ofJ RX4 [some (.ref q), some (.int x), some (.int y), none] (by decide) rfl rfl (Nat.le_of_ble_eq_true rfl) rfl ?_
  refine j_aload_n (pc' := 1) dX4_changeValue_0 rfl rfl ?_
  refine j_iload_n (pc' := 2) dX4_changeValue_1 rfl rfl ?_
  refine j_cVi (pc' := 5) m_X4_69 (c_X4_hasPoint hs h) (by assumption) (by decide) rfl rfl rfl ⟨Nat.le_of_ble_eq_true rfl, Nat.le_of_ble_eq_true rfl⟩ ⟨Nat.zero_le _, Nat.zero_le _⟩ (Nat.le_of_ble_eq_true rfl) dX4_changeValue_2 rfl (fun x1 I1 hq => ?_)
  obtain ⟨rfl, rfl⟩ := hq
  first | refine j_if_eqB' (tgt := 21) (pc' := 8) (by with_reducible rfl) dX4_changeValue_5 rfl (by decide) (fun c5 => ?_) (fun c5 => ?_) | refine j_if_eqN' (tgt := 21) (pc' := 8) (by with_reducible rfl) (by omega) dX4_changeValue_5 rfl (by decide) (fun c5 => ?_) (fun c5 => ?_) | refine j_if_eq (tgt := 21) (pc' := 8) dX4_changeValue_5 rfl (by decide) (fun c5 => ?_) (fun c5 => ?_)
  ·
    refine j_sipush (pc' := 24) (v := -20001) dX4_changeValue_21 rfl rfl ?_
    refine j_reti dX4_changeValue_24 rfl (by first | rfl | exact bi_n _) ?_
    unfold fVal okV
    first | rw [if_pos c5] | rw [if_neg c5] | rw [if_neg (by rw [c5]; decide)] | skip
    exact ⟨rfl, h⟩
  ·
    have hok := c5
    obtain ⟨i, hi, rfl⟩ := okP_nat h.vi.z h16 c5
    obtain ⟨hRi, hPi⟩ := hP i (by omega)
    obtain ⟨P0, P1, P2, PR0, PR1⟩ := id hPi
    refine j_iload_n (pc' := 9) dX4_changeValue_8 rfl rfl ?_
    refine j_sipush (pc' := 12) (v := -10000) dX4_changeValue_9 rfl rfl ?_
    refine j_sipush (pc' := 15) (v := nI 10000) dX4_changeValue_12 rfl rfl ?_
    refine j_cSNi (pc' := 18) m_X4_61 (c_X5_isIn _ _ _ _ _ _ _ _ _) rfl rfl ⟨Nat.le_of_ble_eq_true rfl, Nat.le_of_ble_eq_true rfl⟩ ⟨Nat.zero_le _, Nat.zero_le _⟩ (Nat.le_of_ble_eq_true rfl) dX4_changeValue_15 rfl (fun x1 I1 hq => ?_)
    obtain ⟨rfl, rfl⟩ := hq
    first | refine j_if_neB' (tgt := 25) (pc' := 21) (by with_reducible rfl) dX4_changeValue_18 rfl (by decide) (fun c18 => ?_) (fun c18 => ?_) | refine j_if_neN' (tgt := 25) (pc' := 21) (by with_reducible rfl) (by omega) dX4_changeValue_18 rfl (by decide) (fun c18 => ?_) (fun c18 => ?_) | refine j_if_ne (tgt := 25) (pc' := 21) dX4_changeValue_18 rfl (by decide) (fun c18 => ?_) (fun c18 => ?_)
    ·
      refine j_aload_n (pc' := 26) dX4_changeValue_25 rfl rfl ?_
      refine j_getR (pc' := 29) f_X4_11 (by assumption) (by assumption) dX4_changeValue_26 rfl ?_
      refine j_iload_n (pc' := 30) dX4_changeValue_29 rfl rfl ?_
      first | refine j_aaldP (pc' := 31) (by assumption) rfl (by omega) (by omega) (by first | assumption | (simp (disch := omega) only [h.num, h.tim, h.mod, h.act, h.akt, h.aks, h.f1, h.f2, h.f3, h.f4, h.f5, (h.pt hi).2.2.1, (h.pt hi).2.2.2.1, (h.pt hi).2.2.2.2.1, (h.pt hi).2.2.2.2.2.1, (h.pt hi).2.2.2.2.2.2.1, (h.pt hi).2.2.2.2.2.2.2.1, (h.pt hi).2.2.2.2.2.2.2.2.1, (h.pt hi).2.2.2.2.2.2.2.2.2.1]; done)) dX4_changeValue_30 rfl ?_ | refine j_aaldS (pc' := 31) (by assumption) rfl (by omega) (by omega) (by assumption) dX4_changeValue_30 rfl ?_
      refine j_getIv (pc' := 34) f_X4_101 (by assumption) (by first | (simp (disch := omega) only [jx_upS, jx_upK, jx_upA, h.num, h.tim, h.mod, h.act, h.akt, h.aks, h.f1, h.f2, h.f3, h.f4, h.f5, (h.pt hi).2.2.1, (h.pt hi).2.2.2.1, (h.pt hi).2.2.2.2.1, (h.pt hi).2.2.2.2.2.1, (h.pt hi).2.2.2.2.2.2.1, (h.pt hi).2.2.2.2.2.2.2.1, (h.pt hi).2.2.2.2.2.2.2.2.1, (h.pt hi).2.2.2.2.2.2.2.2.2.1]; rfl) | rfl) dX4_changeValue_31 rfl ?_
      refine j_istore_n (pc' := 35) (lv' := [_, _, _, _]) dX4_changeValue_34 rfl (by decide) rfl ?_
      refine j_aload_n (pc' := 36) dX4_changeValue_35 rfl rfl ?_
      refine j_getR (pc' := 39) f_X4_11 (by assumption) (by assumption) dX4_changeValue_36 rfl ?_
      refine j_iload_n (pc' := 40) dX4_changeValue_39 rfl rfl ?_
      first | refine j_aaldP (pc' := 41) (by assumption) rfl (by omega) (by omega) (by first | assumption | (simp (disch := omega) only [h.num, h.tim, h.mod, h.act, h.akt, h.aks, h.f1, h.f2, h.f3, h.f4, h.f5, (h.pt hi).2.2.1, (h.pt hi).2.2.2.1, (h.pt hi).2.2.2.2.1, (h.pt hi).2.2.2.2.2.1, (h.pt hi).2.2.2.2.2.2.1, (h.pt hi).2.2.2.2.2.2.2.1, (h.pt hi).2.2.2.2.2.2.2.2.1, (h.pt hi).2.2.2.2.2.2.2.2.2.1]; done)) dX4_changeValue_40 rfl ?_ | refine j_aaldS (pc' := 41) (by assumption) rfl (by omega) (by omega) (by assumption) dX4_changeValue_40 rfl ?_
      refine j_iload_n (pc' := 42) dX4_changeValue_41 rfl rfl ?_
      refine j_putI (pc' := 45) f_X4_101 (by assumption) rfl rfl dX4_changeValue_42 rfl ?_
      refine j_gen (h.p3 hi (okW_free (by omega))) (fun I1 h => ?_)
      refine j_iload_n (pc' := 46) dX4_changeValue_45 rfl rfl ?_
      refine j_reti dX4_changeValue_46 rfl (by first | rfl | exact bi_n _) ?_
      unfold fVal okV
      first | rw [if_pos c5] | rw [if_neg c5] | rw [if_neg (by rw [c5]; decide)] | skip
      try rw [nI_clamp (show i < 2147483648 from by omega)]
      first | rw [if_pos c18] | rw [if_neg c18] | rw [if_neg (by rw [c18]; decide)] | skip
      exact ⟨rfl, h⟩
    ·
      refine j_sipush (pc' := 24) (v := -20001) dX4_changeValue_21 rfl rfl ?_
      refine j_reti dX4_changeValue_24 rfl (by first | rfl | exact bi_n _) ?_
      unfold fVal okV
      first | rw [if_pos c5] | rw [if_neg c5] | rw [if_neg (by rw [c5]; decide)] | skip
      try rw [nI_clamp (show i < 2147483648 from by omega)]
      first | rw [if_pos c18] | rw [if_neg c18] | rw [if_neg (by rw [c18]; decide)] | skip
      exact ⟨rfl, h⟩

theorem aS.hap2 {I0 I : jx_I} {q : Nat} {v : Nat → Int32} {k T S N : Nat} {w p x : Int32} (h : aS I0 I q v k T S N) (hb : N < 2147483000) (hx : v 1 = x) : aS I0 (jx_up (jx_up (jx_up (jx_up I (q + 4 + 1) (N % 30) x) (q + 4 + 2) (N % 30) w) (q + 4 + 3) (N % 30) p) (q + 4) 3 (nI (N + 1))) q (sHap v w p) k T S (N + 1) := by
  subst hx
  exact h.hap hb
set_option maxRecDepth 100000 in
set_option maxHeartbeats 4000000 in
theorem c_X4_endShelf {E : jx_E} {l : Launch} {n : Nat} {kd : jx_K} {R : jx_R} {I0 I : jx_I} {q : Nat} {v : Nat → Int32} {k T S N : Nat} {i : Nat} (hs : sSt kd R q) (h : aS I0 I q v k T S N) (hi : i < k) (hNb : N + 100 < 2147483000) : jx_Cv E l yX4_endShelf cX4_endShelf 2 none 2 n kd R (I) [.ref q, .int (nI i)] (fun I' => aS I0 I' q (sHap (upd v (176 + 56 * i + 13) (nI 0)) (nI 5) (nI i)) k T S (N + 1)) := by
  obtain ⟨K0, K1, R0, R1, R2, hF, hL, hP⟩ := id hs
  obtain ⟨FK0, FK1, FR0⟩ := id hF
  obtain ⟨LK0, LK1, LK2, LK3, LR0, LR1, LR2⟩ := id hL
  have h16 := h.vi.k16
  have hT1 := h.vi.tl
  have hS1 := h.vi.sl
  obtain ⟨hRi, hPi⟩ := hP i (by omega)
  obtain ⟨P0, P1, P2, PR0, PR1⟩ := id hPi
  refine jx_C0.ofJ RX4 [some (.ref q), some (.int (nI i))] (by decide) rfl rfl (Nat.le_of_ble_eq_true rfl) rfl ?_
  refine j_aload_n (pc' := 1) dX4_endShelf_0 rfl rfl ?_
  refine j_getR (pc' := 4) f_X4_11 (by assumption) (by assumption) dX4_endShelf_1 rfl ?_
  refine j_iload_n (pc' := 5) dX4_endShelf_4 rfl rfl ?_
  first | refine j_aaldP (pc' := 6) (by assumption) rfl (by omega) (by omega) (by first | assumption | (simp (disch := omega) only [h.num, h.tim, h.mod, h.act, h.akt, h.aks, h.f1, h.f2, h.f3, h.f4, h.f5, h.num, h.tim, h.mod, h.act, h.akt, h.aks, h.f1, h.f2, h.f3, h.f4, h.f5, pk_us, pk_un]; done)) dX4_endShelf_5 rfl ?_ | refine j_aaldS (pc' := 6) (by assumption) rfl (by omega) (by omega) (by assumption) dX4_endShelf_5 rfl ?_
  refine j_iconst (pc' := 7) (v := nI 0) dX4_endShelf_6 rfl rfl ?_
  refine j_putI (pc' := 10) f_X4_122 (by assumption) rfl rfl dX4_endShelf_7 rfl ?_
  refine j_gen (h.p9 hi (okW_13 (u := 0) (by omega) rfl)) (fun I1 h => ?_)
  refine j_aload_n (pc' := 11) dX4_endShelf_10 rfl rfl ?_
  refine j_getR (pc' := 14) f_X4_27 (by assumption) (by assumption) dX4_endShelf_11 rfl ?_
  refine j_aload_n (pc' := 15) dX4_endShelf_14 rfl rfl ?_
  refine j_getIv (pc' := 18) f_X4_46 (by assumption) (by first | (simp (disch := omega) only [jx_upS, jx_upK, jx_upA, h.num, h.tim, h.mod, h.act, h.akt, h.aks, h.f1, h.f2, h.f3, h.f4, h.f5, h.num, h.tim, h.mod, h.act, h.akt, h.aks, h.f1, h.f2, h.f3, h.f4, h.f5, pk_us, pk_un]; rfl) | rfl) dX4_endShelf_15 rfl ?_
  refine j_iconst (pc' := 19) (v := nI 5) dX4_endShelf_18 rfl rfl ?_
  refine j_iload_n (pc' := 20) dX4_endShelf_19 rfl rfl ?_
  refine j_cVv (pc' := 23) m_X4_145 (c_X1_write hL (h.lg.1.trans h.vi.n) (by omega)) (by assumption) (by decide) rfl rfl rfl ⟨Nat.le_of_ble_eq_true rfl, Nat.le_of_ble_eq_true rfl⟩ ⟨Nat.zero_le _, Nat.zero_le _⟩ (Nat.le_of_ble_eq_true rfl) dX4_endShelf_20 rfl (fun I1 hq => ?_)
  subst hq
  refine j_gen (h.hap2 (by omega) (by simp (disch := omega) only [pk_un])) (fun I1 h => ?_)
  refine j_retv dX4_endShelf_23 rfl ?_
  exact h

set_option maxRecDepth 100000 in
set_option maxHeartbeats 4000000 in
theorem c_X4_acknowledge {E : jx_E} {l : Launch} {n : Nat} {kd : jx_K} {R : jx_R} {I0 I : jx_I} {q : Nat} {v : Nat → Int32} {k T S N : Nat} {x : Int32} (hs : sSt kd R q) (h : aS I0 I q v k T S N) (hNb : N + 100 < 2147483000) : jx_Ci E l yX4_acknowledge cX4_acknowledge 4 (some .int) 2 n kd R (I) [.ref q, .int x] (fun r I' => r = (fAck v x).1 ∧ ∃ N', N ≤ N' ∧ N' ≤ N + 1 ∧ aS I0 I' q (fAck v x).2 k T S N') := by
  obtain ⟨K0, K1, R0, R1, R2, hF, hL, hP⟩ := id hs
  obtain ⟨FK0, FK1, FR0⟩ := id hF
  obtain ⟨LK0, LK1, LK2, LK3, LR0, LR1, LR2⟩ := id hL
  have h16 := h.vi.k16
  have hT1 := h.vi.tl
  have hS1 := h.vi.sl
  refine jx_C0.ofJ RX4 [some (.ref q), some (.int x), none, none] (by decide) rfl rfl (Nat.le_of_ble_eq_true rfl) rfl ?_
  refine j_aload_n (pc' := 1) dX4_acknowledge_0 rfl rfl ?_
  refine j_iload_n (pc' := 2) dX4_acknowledge_1 rfl rfl ?_
  refine j_cVi (pc' := 5) m_X4_69 (c_X4_hasPoint hs h) (by assumption) (by decide) rfl rfl rfl ⟨Nat.le_of_ble_eq_true rfl, Nat.le_of_ble_eq_true rfl⟩ ⟨Nat.zero_le _, Nat.zero_le _⟩ (Nat.le_of_ble_eq_true rfl) dX4_acknowledge_2 rfl (fun x1 I1 hq => ?_)
  obtain ⟨rfl, rfl⟩ := hq
  first | refine j_if_neB' (tgt := 12) (pc' := 8) (by with_reducible rfl) dX4_acknowledge_5 rfl (by decide) (fun c5 => ?_) (fun c5 => ?_) | refine j_if_neN' (tgt := 12) (pc' := 8) (by with_reducible rfl) (by omega) dX4_acknowledge_5 rfl (by decide) (fun c5 => ?_) (fun c5 => ?_) | refine j_if_ne (tgt := 12) (pc' := 8) dX4_acknowledge_5 rfl (by decide) (fun c5 => ?_) (fun c5 => ?_)
  ·
    have hok := c5
    obtain ⟨i, hi, rfl⟩ := okP_nat h.vi.z h16 c5
    obtain ⟨hRi, hPi⟩ := hP i (by omega)
    obtain ⟨P0, P1, P2, PR0, PR1⟩ := id hPi
    obtain ⟨b, hb⟩ := h.vi.ak hi
    refine j_aload_n (pc' := 13) dX4_acknowledge_12 rfl rfl ?_
    refine j_getR (pc' := 16) f_X4_11 (by assumption) (by assumption) dX4_acknowledge_13 rfl ?_
    refine j_iload_n (pc' := 17) dX4_acknowledge_16 rfl rfl ?_
    first | refine j_aaldP (pc' := 18) (by assumption) rfl (by omega) (by omega) (by first | assumption | (simp (disch := omega) only [h.num, h.tim, h.mod, h.act, h.akt, h.aks, h.f1, h.f2, h.f3, h.f4, h.f5, (h.pt hi).2.2.1, (h.pt hi).2.2.2.1, (h.pt hi).2.2.2.2.1, (h.pt hi).2.2.2.2.2.1, (h.pt hi).2.2.2.2.2.2.1, (h.pt hi).2.2.2.2.2.2.2.1, (h.pt hi).2.2.2.2.2.2.2.2.1, (h.pt hi).2.2.2.2.2.2.2.2.2.1, pk_us, pk_un, hb]; done)) dX4_acknowledge_17 rfl ?_ | refine j_aaldS (pc' := 18) (by assumption) rfl (by omega) (by omega) (by assumption) dX4_acknowledge_17 rfl ?_
    refine j_astore_n (pc' := 19) (lv' := [_, _, _, _]) dX4_acknowledge_18 rfl (by decide) rfl ?_
    refine j_aload_n (pc' := 20) dX4_acknowledge_19 rfl rfl ?_
    refine j_getIv (pc' := 23) f_X4_152 (by assumption) (by first | (simp (disch := omega) only [jx_upS, jx_upK, jx_upA, h.num, h.tim, h.mod, h.act, h.akt, h.aks, h.f1, h.f2, h.f3, h.f4, h.f5, (h.pt hi).2.2.1, (h.pt hi).2.2.2.1, (h.pt hi).2.2.2.2.1, (h.pt hi).2.2.2.2.2.1, (h.pt hi).2.2.2.2.2.2.1, (h.pt hi).2.2.2.2.2.2.2.1, (h.pt hi).2.2.2.2.2.2.2.2.1, (h.pt hi).2.2.2.2.2.2.2.2.2.1, pk_us, pk_un, hb]; rfl) | rfl) dX4_acknowledge_20 rfl ?_
    first | refine j_if_eqB' (tgt := 30) (pc' := 26) (by with_reducible rfl) dX4_acknowledge_23 rfl (by decide) (fun c23 => ?_) (fun c23 => ?_) | refine j_if_eqN' (tgt := 30) (pc' := 26) (by with_reducible rfl) (by omega) dX4_acknowledge_23 rfl (by decide) (fun c23 => ?_) (fun c23 => ?_) | refine j_if_eq (tgt := 30) (pc' := 26) dX4_acknowledge_23 rfl (by decide) (fun c23 => ?_) (fun c23 => ?_)
    ·
      refine j_aload_n (pc' := 31) dX4_acknowledge_30 rfl rfl ?_
      refine j_iconst (pc' := 32) (v := nI 1) dX4_acknowledge_31 rfl rfl ?_
      refine j_putI (pc' := 35) f_X4_152 (by assumption) (by first | rfl | exact bi_n _) (by first | rfl | exact bi_fit _) dX4_acknowledge_32 rfl ?_
      refine j_gen (h.p6 hi (okW_10 ⟨true, rfl⟩)) (fun I1 h => ?_)
      refine j_aload_n (pc' := 36) dX4_acknowledge_35 rfl rfl ?_
      refine j_getIv (pc' := 39) f_X4_46 (by assumption) (by first | (simp (disch := omega) only [jx_upS, jx_upK, jx_upA, h.num, h.tim, h.mod, h.act, h.akt, h.aks, h.f1, h.f2, h.f3, h.f4, h.f5, (h.pt hi).2.2.1, (h.pt hi).2.2.2.1, (h.pt hi).2.2.2.2.1, (h.pt hi).2.2.2.2.2.1, (h.pt hi).2.2.2.2.2.2.1, (h.pt hi).2.2.2.2.2.2.2.1, (h.pt hi).2.2.2.2.2.2.2.2.1, (h.pt hi).2.2.2.2.2.2.2.2.2.1, pk_us, pk_un, hb]; rfl) | rfl) dX4_acknowledge_36 rfl ?_
      refine j_aload_n (pc' := 40) dX4_acknowledge_39 rfl rfl ?_
      refine j_getIv (pc' := 43) f_X4_155 (by assumption) (by first | (simp (disch := omega) only [jx_upS, jx_upK, jx_upA, h.num, h.tim, h.mod, h.act, h.akt, h.aks, h.f1, h.f2, h.f3, h.f4, h.f5, (h.pt hi).2.2.1, (h.pt hi).2.2.2.1, (h.pt hi).2.2.2.2.1, (h.pt hi).2.2.2.2.2.1, (h.pt hi).2.2.2.2.2.2.1, (h.pt hi).2.2.2.2.2.2.2.1, (h.pt hi).2.2.2.2.2.2.2.2.1, (h.pt hi).2.2.2.2.2.2.2.2.2.1, pk_us, pk_un, hb]; rfl) | rfl) dX4_acknowledge_40 rfl ?_
      refine j_isub (pc' := 44) dX4_acknowledge_43 rfl ?_
      refine j_istore_n (pc' := 45) (lv' := [_, _, _, _]) dX4_acknowledge_44 rfl (by decide) rfl ?_
      refine j_aload_n (pc' := 46) dX4_acknowledge_45 rfl rfl ?_
      refine j_dup (pc' := 47) dX4_acknowledge_46 rfl rfl ?_
      refine j_getIv (pc' := 50) f_X4_55 (by assumption) (by first | (simp (disch := omega) only [jx_upS, jx_upK, jx_upA, h.num, h.tim, h.mod, h.act, h.akt, h.aks, h.f1, h.f2, h.f3, h.f4, h.f5, (h.pt hi).2.2.1, (h.pt hi).2.2.2.1, (h.pt hi).2.2.2.2.1, (h.pt hi).2.2.2.2.2.1, (h.pt hi).2.2.2.2.2.2.1, (h.pt hi).2.2.2.2.2.2.2.1, (h.pt hi).2.2.2.2.2.2.2.2.1, (h.pt hi).2.2.2.2.2.2.2.2.2.1, pk_us, pk_un, hb]; rfl) | rfl) dX4_acknowledge_47 rfl ?_
      refine j_iload_n (pc' := 51) dX4_acknowledge_50 rfl rfl ?_
      refine j_iadd (pc' := 52) dX4_acknowledge_51 rfl ?_
      refine j_putI (pc' := 55) f_X4_55 (by assumption) rfl rfl dX4_acknowledge_52 rfl ?_
      refine j_gen (h.q7) (fun I1 h => ?_)
      refine j_aload_n (pc' := 56) dX4_acknowledge_55 rfl rfl ?_
      refine j_dup (pc' := 57) dX4_acknowledge_56 rfl rfl ?_
      refine j_getIv (pc' := 60) f_X4_58 (by assumption) (by first | (simp (disch := omega) only [jx_upS, jx_upK, jx_upA, h.num, h.tim, h.mod, h.act, h.akt, h.aks, h.f1, h.f2, h.f3, h.f4, h.f5, (h.pt hi).2.2.1, (h.pt hi).2.2.2.1, (h.pt hi).2.2.2.2.1, (h.pt hi).2.2.2.2.2.1, (h.pt hi).2.2.2.2.2.2.1, (h.pt hi).2.2.2.2.2.2.2.1, (h.pt hi).2.2.2.2.2.2.2.2.1, (h.pt hi).2.2.2.2.2.2.2.2.2.1, pk_us, pk_un, hb]; rfl) | rfl) dX4_acknowledge_57 rfl ?_
      refine j_iconst (pc' := 61) (v := nI 1) dX4_acknowledge_60 rfl rfl ?_
      first | refine j_iaddN' (pc' := 62) (by with_reducible rfl) (by with_reducible rfl) dX4_acknowledge_61 rfl ?_ | refine j_iadd (pc' := 62) dX4_acknowledge_61 rfl ?_
      refine j_putI (pc' := 65) f_X4_58 (by assumption) rfl rfl dX4_acknowledge_62 rfl ?_
      refine j_gen (h.q8) (fun I1 h => ?_)
      refine j_aload_n (pc' := 66) dX4_acknowledge_65 rfl rfl ?_
      refine j_getR (pc' := 69) f_X4_27 (by assumption) (by assumption) dX4_acknowledge_66 rfl ?_
      refine j_aload_n (pc' := 70) dX4_acknowledge_69 rfl rfl ?_
      refine j_getIv (pc' := 73) f_X4_46 (by assumption) (by first | (simp (disch := omega) only [jx_upS, jx_upK, jx_upA, h.num, h.tim, h.mod, h.act, h.akt, h.aks, h.f1, h.f2, h.f3, h.f4, h.f5, (h.pt hi).2.2.1, (h.pt hi).2.2.2.1, (h.pt hi).2.2.2.2.1, (h.pt hi).2.2.2.2.2.1, (h.pt hi).2.2.2.2.2.2.1, (h.pt hi).2.2.2.2.2.2.2.1, (h.pt hi).2.2.2.2.2.2.2.2.1, (h.pt hi).2.2.2.2.2.2.2.2.2.1, pk_us, pk_un, hb]; rfl) | rfl) dX4_acknowledge_70 rfl ?_
      refine j_iconst (pc' := 74) (v := nI 3) dX4_acknowledge_73 rfl rfl ?_
      refine j_iload_n (pc' := 75) dX4_acknowledge_74 rfl rfl ?_
      refine j_cVv (pc' := 78) m_X4_145 (c_X1_write hL (h.lg.1.trans h.vi.n) (by omega)) (by assumption) (by decide) rfl rfl rfl ⟨Nat.le_of_ble_eq_true rfl, Nat.le_of_ble_eq_true rfl⟩ ⟨Nat.zero_le _, Nat.zero_le _⟩ (Nat.le_of_ble_eq_true rfl) dX4_acknowledge_75 rfl (fun I1 hq => ?_)
      subst hq
      refine j_gen (h.hap2 (by omega) (by simp (disch := omega) only [pk_un])) (fun I1 h => ?_)
      refine j_iload_n (pc' := 79) dX4_acknowledge_78 rfl rfl ?_
      refine j_reti dX4_acknowledge_79 rfl (by first | rfl | exact bi_n _) ?_
      unfold fAck
      rw [if_pos hok, nI_clamp (show i < 2147483648 from by omega), if_neg (by rw [hb, c23]; decide)]
      exact ⟨rfl, N + 1, by omega, by omega, h⟩
    ·
      refine j_sipush (pc' := 29) (v := -20002) dX4_acknowledge_26 rfl rfl ?_
      refine j_reti dX4_acknowledge_29 rfl (by first | rfl | exact bi_n _) ?_
      unfold fAck
      rw [if_pos hok, nI_clamp (show i < 2147483648 from by omega), if_pos (by rw [hb, c23]; rfl)]
      exact ⟨rfl, N, by omega, by omega, h⟩
  ·
    refine j_sipush (pc' := 11) (v := -20001) dX4_acknowledge_8 rfl rfl ?_
    refine j_reti dX4_acknowledge_11 rfl (by first | rfl | exact bi_n _) ?_
    unfold fAck
    rw [if_neg (by rw [c5]; decide)]
    exact ⟨rfl, N, by omega, by omega, h⟩

set_option maxRecDepth 100000 in
set_option maxHeartbeats 4000000 in
theorem c_X4_putOnShelf {E : jx_E} {l : Launch} {n : Nat} {kd : jx_K} {R : jx_R} {I0 I : jx_I} {q : Nat} {v : Nat → Int32} {k T S N : Nat} {x y : Int32} (hs : sSt kd R q) (h : aS I0 I q v k T S N) (hNb : N + 100 < 2147483000) : jx_Ci E l yX4_putOnShelf cX4_putOnShelf 3 (some .int) 2 n kd R (I) [.ref q, .int x, .int y] (fun r I' => r = (fShv v x y).1 ∧ ∃ N', N ≤ N' ∧ N' ≤ N + 1 ∧ aS I0 I' q (fShv v x y).2 k T S N') := by
  obtain ⟨K0, K1, R0, R1, R2, hF, hL, hP⟩ := id hs
  obtain ⟨FK0, FK1, FR0⟩ := id hF
  obtain ⟨LK0, LK1, LK2, LK3, LR0, LR1, LR2⟩ := id hL
  have h16 := h.vi.k16
  have hT1 := h.vi.tl
  have hS1 := h.vi.sl
  refine jx_C0.ofJ RX4 [some (.ref q), some (.int x), some (.int y)] (by decide) rfl rfl (Nat.le_of_ble_eq_true rfl) rfl ?_
  refine j_aload_n (pc' := 1) dX4_putOnShelf_0 rfl rfl ?_
  refine j_iload_n (pc' := 2) dX4_putOnShelf_1 rfl rfl ?_
  refine j_cVi (pc' := 5) m_X4_69 (c_X4_hasPoint hs h) (by assumption) (by decide) rfl rfl rfl ⟨Nat.le_of_ble_eq_true rfl, Nat.le_of_ble_eq_true rfl⟩ ⟨Nat.zero_le _, Nat.zero_le _⟩ (Nat.le_of_ble_eq_true rfl) dX4_putOnShelf_2 rfl (fun x1 I1 hq => ?_)
  obtain ⟨rfl, rfl⟩ := hq
  first | refine j_if_eqB' (tgt := 19) (pc' := 8) (by with_reducible rfl) dX4_putOnShelf_5 rfl (by decide) (fun c5 => ?_) (fun c5 => ?_) | refine j_if_eqN' (tgt := 19) (pc' := 8) (by with_reducible rfl) (by omega) dX4_putOnShelf_5 rfl (by decide) (fun c5 => ?_) (fun c5 => ?_) | refine j_if_eq (tgt := 19) (pc' := 8) dX4_putOnShelf_5 rfl (by decide) (fun c5 => ?_) (fun c5 => ?_)
  ·
    refine j_sipush (pc' := 22) (v := -20001) dX4_putOnShelf_19 rfl rfl ?_
    refine j_reti dX4_putOnShelf_22 rfl (by first | rfl | exact bi_n _) ?_
    unfold fShv
    rw [if_neg (by rw [c5]; decide)]
    exact ⟨rfl, N, by omega, by omega, h⟩
  ·
    have hok := c5
    obtain ⟨i, hi, rfl⟩ := okP_nat h.vi.z h16 c5
    obtain ⟨hRi, hPi⟩ := hP i (by omega)
    obtain ⟨P0, P1, P2, PR0, PR1⟩ := id hPi
    refine j_iload_n (pc' := 9) dX4_putOnShelf_8 rfl rfl ?_
    refine j_iconst (pc' := 10) (v := nI 1) dX4_putOnShelf_9 rfl rfl ?_
    refine j_sipush (pc' := 13) (v := nI 1000) dX4_putOnShelf_10 rfl rfl ?_
    refine j_cSNi (pc' := 16) m_X4_61 (c_X5_isIn _ _ _ _ _ _ _ _ _) rfl rfl ⟨Nat.le_of_ble_eq_true rfl, Nat.le_of_ble_eq_true rfl⟩ ⟨Nat.zero_le _, Nat.zero_le _⟩ (Nat.le_of_ble_eq_true rfl) dX4_putOnShelf_13 rfl (fun x1 I1 hq => ?_)
    obtain ⟨rfl, rfl⟩ := hq
    first | refine j_if_neB' (tgt := 23) (pc' := 19) (by with_reducible rfl) dX4_putOnShelf_16 rfl (by decide) (fun c16 => ?_) (fun c16 => ?_) | refine j_if_neN' (tgt := 23) (pc' := 19) (by with_reducible rfl) (by omega) dX4_putOnShelf_16 rfl (by decide) (fun c16 => ?_) (fun c16 => ?_) | refine j_if_ne (tgt := 23) (pc' := 19) dX4_putOnShelf_16 rfl (by decide) (fun c16 => ?_) (fun c16 => ?_)
    ·
      have hyy := c16
      obtain ⟨w, hw1, hw2, rfl⟩ := in_nat c16 (by omega) (by omega)
      refine j_aload_n (pc' := 24) dX4_putOnShelf_23 rfl rfl ?_
      refine j_getR (pc' := 27) f_X4_11 (by assumption) (by assumption) dX4_putOnShelf_24 rfl ?_
      refine j_iload_n (pc' := 28) dX4_putOnShelf_27 rfl rfl ?_
      first | refine j_aaldP (pc' := 29) (by assumption) rfl (by omega) (by omega) (by first | assumption | (simp (disch := omega) only [h.num, h.tim, h.mod, h.act, h.akt, h.aks, h.f1, h.f2, h.f3, h.f4, h.f5, (h.pt hi).2.2.1, (h.pt hi).2.2.2.1, (h.pt hi).2.2.2.2.1, (h.pt hi).2.2.2.2.2.1, (h.pt hi).2.2.2.2.2.2.1, (h.pt hi).2.2.2.2.2.2.2.1, (h.pt hi).2.2.2.2.2.2.2.2.1, (h.pt hi).2.2.2.2.2.2.2.2.2.1, pk_us, pk_un]; done)) dX4_putOnShelf_28 rfl ?_ | refine j_aaldS (pc' := 29) (by assumption) rfl (by omega) (by omega) (by assumption) dX4_putOnShelf_28 rfl ?_
      refine j_cVi (pc' := 32) m_X4_83 (c_X2_hasHighestPriority hPi (h.pt hi)) (by assumption) (by decide) rfl rfl rfl ⟨Nat.le_of_ble_eq_true rfl, Nat.le_of_ble_eq_true rfl⟩ ⟨Nat.zero_le _, Nat.zero_le _⟩ (Nat.le_of_ble_eq_true rfl) dX4_putOnShelf_29 rfl (fun x1 I1 hq => ?_)
      obtain ⟨rfl, rfl⟩ := hq
      first | refine j_if_eqB' (tgt := 39) (pc' := 35) (by with_reducible rfl) dX4_putOnShelf_32 rfl (by decide) (fun c32 => ?_) (fun c32 => ?_) | refine j_if_eqN' (tgt := 39) (pc' := 35) (by with_reducible rfl) (by omega) dX4_putOnShelf_32 rfl (by decide) (fun c32 => ?_) (fun c32 => ?_) | refine j_if_eq (tgt := 39) (pc' := 35) dX4_putOnShelf_32 rfl (by decide) (fun c32 => ?_) (fun c32 => ?_)
      ·
        skip
        refine j_aload_n (pc' := 40) dX4_putOnShelf_39 rfl rfl ?_
        refine j_getR (pc' := 43) f_X4_11 (by assumption) (by assumption) dX4_putOnShelf_40 rfl ?_
        refine j_iload_n (pc' := 44) dX4_putOnShelf_43 rfl rfl ?_
        first | refine j_aaldP (pc' := 45) (by assumption) rfl (by omega) (by omega) (by first | assumption | (simp (disch := omega) only [h.num, h.tim, h.mod, h.act, h.akt, h.aks, h.f1, h.f2, h.f3, h.f4, h.f5, (h.pt hi).2.2.1, (h.pt hi).2.2.2.1, (h.pt hi).2.2.2.2.1, (h.pt hi).2.2.2.2.2.1, (h.pt hi).2.2.2.2.2.2.1, (h.pt hi).2.2.2.2.2.2.2.1, (h.pt hi).2.2.2.2.2.2.2.2.1, (h.pt hi).2.2.2.2.2.2.2.2.2.1, pk_us, pk_un]; done)) dX4_putOnShelf_44 rfl ?_ | refine j_aaldS (pc' := 45) (by assumption) rfl (by omega) (by omega) (by assumption) dX4_putOnShelf_44 rfl ?_
        refine j_aload_n (pc' := 46) dX4_putOnShelf_45 rfl rfl ?_
        refine j_getIv (pc' := 49) f_X4_46 (by assumption) (by first | (simp (disch := omega) only [jx_upS, jx_upK, jx_upA, h.num, h.tim, h.mod, h.act, h.akt, h.aks, h.f1, h.f2, h.f3, h.f4, h.f5, (h.pt hi).2.2.1, (h.pt hi).2.2.2.1, (h.pt hi).2.2.2.2.1, (h.pt hi).2.2.2.2.2.1, (h.pt hi).2.2.2.2.2.2.1, (h.pt hi).2.2.2.2.2.2.2.1, (h.pt hi).2.2.2.2.2.2.2.2.1, (h.pt hi).2.2.2.2.2.2.2.2.2.1, pk_us, pk_un]; rfl) | rfl) dX4_putOnShelf_46 rfl ?_
        refine j_iload_n (pc' := 50) dX4_putOnShelf_49 rfl rfl ?_
        refine j_iadd (pc' := 51) dX4_putOnShelf_50 rfl ?_
        refine j_putI (pc' := 54) f_X4_122 (by assumption) rfl rfl dX4_putOnShelf_51 rfl ?_
        refine j_gen (h.p9 hi (okW_13 (u := T + w) (by omega) (by rw [h.vi.t, nI_add]))) (fun I1 h => ?_)
        refine j_aload_n (pc' := 55) dX4_putOnShelf_54 rfl rfl ?_
        refine j_getR (pc' := 58) f_X4_27 (by assumption) (by assumption) dX4_putOnShelf_55 rfl ?_
        refine j_aload_n (pc' := 59) dX4_putOnShelf_58 rfl rfl ?_
        refine j_getIv (pc' := 62) f_X4_46 (by assumption) (by first | (simp (disch := omega) only [jx_upS, jx_upK, jx_upA, h.num, h.tim, h.mod, h.act, h.akt, h.aks, h.f1, h.f2, h.f3, h.f4, h.f5, (h.pt hi).2.2.1, (h.pt hi).2.2.2.1, (h.pt hi).2.2.2.2.1, (h.pt hi).2.2.2.2.2.1, (h.pt hi).2.2.2.2.2.2.1, (h.pt hi).2.2.2.2.2.2.2.1, (h.pt hi).2.2.2.2.2.2.2.2.1, (h.pt hi).2.2.2.2.2.2.2.2.2.1, pk_us, pk_un]; rfl) | rfl) dX4_putOnShelf_59 rfl ?_
        refine j_iconst (pc' := 63) (v := nI 4) dX4_putOnShelf_62 rfl rfl ?_
        refine j_iload_n (pc' := 64) dX4_putOnShelf_63 rfl rfl ?_
        refine j_cVv (pc' := 67) m_X4_145 (c_X1_write hL (h.lg.1.trans h.vi.n) (by omega)) (by assumption) (by decide) rfl rfl rfl ⟨Nat.le_of_ble_eq_true rfl, Nat.le_of_ble_eq_true rfl⟩ ⟨Nat.zero_le _, Nat.zero_le _⟩ (Nat.le_of_ble_eq_true rfl) dX4_putOnShelf_64 rfl (fun I1 hq => ?_)
        subst hq
        refine j_gen (h.hap2 (by omega) (by simp (disch := omega) only [pk_un])) (fun I1 h => ?_)
        refine j_aload_n (pc' := 68) dX4_putOnShelf_67 rfl rfl ?_
        refine j_getIv (pc' := 71) f_X4_46 (by assumption) (by first | (simp (disch := omega) only [jx_upS, jx_upK, jx_upA, h.num, h.tim, h.mod, h.act, h.akt, h.aks, h.f1, h.f2, h.f3, h.f4, h.f5, (h.pt hi).2.2.1, (h.pt hi).2.2.2.1, (h.pt hi).2.2.2.2.1, (h.pt hi).2.2.2.2.2.1, (h.pt hi).2.2.2.2.2.2.1, (h.pt hi).2.2.2.2.2.2.2.1, (h.pt hi).2.2.2.2.2.2.2.2.1, (h.pt hi).2.2.2.2.2.2.2.2.2.1, pk_us, pk_un, sHap_o]; rfl) | rfl) dX4_putOnShelf_68 rfl ?_
        refine j_iload_n (pc' := 72) dX4_putOnShelf_71 rfl rfl ?_
        refine j_iadd (pc' := 73) dX4_putOnShelf_72 rfl ?_
        refine j_reti dX4_putOnShelf_73 rfl (by first | rfl | exact bi_n _) ?_
        unfold fShv
        rw [if_pos hok, if_pos hyy, nI_clamp (show i < 2147483648 from by omega), if_neg (of_decide_eq_false c32)]
        exact ⟨rfl, N + 1, by omega, by omega, h⟩
      ·
        skip
        refine j_sipush (pc' := 38) (v := -20002) dX4_putOnShelf_35 rfl rfl ?_
        refine j_reti dX4_putOnShelf_38 rfl (by first | rfl | exact bi_n _) ?_
        unfold fShv
        rw [if_pos hok, if_pos hyy, nI_clamp (show i < 2147483648 from by omega), if_pos (of_decide_eq_true c32)]
        exact ⟨rfl, N, by omega, by omega, h⟩
    ·
      refine j_sipush (pc' := 22) (v := -20001) dX4_putOnShelf_19 rfl rfl ?_
      refine j_reti dX4_putOnShelf_22 rfl (by first | rfl | exact bi_n _) ?_
      unfold fShv
      rw [if_pos hok, if_neg (by rw [c16]; decide)]
      exact ⟨rfl, N, by omega, by omega, h⟩

