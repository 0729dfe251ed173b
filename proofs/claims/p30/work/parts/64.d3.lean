/-! ===== the desk: what is read ===== -/
set_option maxRecDepth 100000 in
set_option maxHeartbeats 4000000 in
theorem c_X5_points {E : jx_E} {l : Launch} {n : Nat} {kd : jx_K} {R : jx_R} {I : jx_I} {d : Nat} {P : Nat → Nat} {v : Nat → Int32} {k T S N : Nat} (hs : sDk kd R d P) (hA : aSt I (stA d (P 4)) v k T) (hV : VI v k T S N) (hNb : N + 5000 < 2147483000) : jx_Ci E l yX5_points cX5_points 1 (some .int) 0 n kd R (I) [.ref d] (fun r I' => r = v 0 ∧ I' = I) := by
  obtain ⟨K0, K6, K7, R0, R1, R2, R4, R5, Rp, hsc, hst, hP6, hinj⟩ := id hs
  have S4 := hs.st (show 4 < 6 from by omega)
  have S5 := hs.st (show 5 < 6 from by omega)
  have K4 := S4.1
  have K5 := S5.1
  obtain ⟨_, QK1, QR0, QR1, QR2, hF, hL, hP⟩ := id S4
  obtain ⟨FK0, FK1, FR0⟩ := id hF
  obtain ⟨LK0, LK1, LK2, LK3, LR0, LR1, LR2⟩ := id hL
  have h : aS I I (stA d (P 4)) v k T S N := ⟨hA, hV, fun _ _ => rfl⟩
  have h16 := hV.k16
  have hT1 := hV.tl
  have hS1 := hV.sl
  refine jx_C0.ofJ RX5 [some (.ref d)] (by decide) rfl rfl (Nat.le_of_ble_eq_true rfl) rfl ?_
  refine j_aload_n (pc' := 1) dX5_points_0 rfl rfl ?_
  refine j_getR (pc' := 4) f_X5_27 (by assumption) (by assumption) dX5_points_1 rfl ?_
  refine j_getIv (pc' := 7) f_X5_66 (by assumption) (by first | (simp (disch := omega) only [jx_upS, jx_upK, jx_upA, h.num, h.tim, h.mod, h.act, h.akt, h.aks, h.f1, h.f2, h.f3, h.f4, h.f5, h.lg.1]; rfl) | rfl) dX5_points_4 rfl ?_
  refine j_reti dX5_points_7 rfl (by first | rfl | exact bi_n _) ?_
  exact ⟨rfl, rfl⟩

set_option maxRecDepth 100000 in
set_option maxHeartbeats 4000000 in
theorem c_X5_events {E : jx_E} {l : Launch} {n : Nat} {kd : jx_K} {R : jx_R} {I : jx_I} {d : Nat} {P : Nat → Nat} {v : Nat → Int32} {k T S N : Nat} (hs : sDk kd R d P) (hA : aSt I (stA d (P 4)) v k T) (hV : VI v k T S N) (hNb : N + 5000 < 2147483000) : jx_Ci E l yX5_events cX5_events 1 (some .int) 0 n kd R (I) [.ref d] (fun r I' => r = v 9 ∧ I' = I) := by
  obtain ⟨K0, K6, K7, R0, R1, R2, R4, R5, Rp, hsc, hst, hP6, hinj⟩ := id hs
  have S4 := hs.st (show 4 < 6 from by omega)
  have S5 := hs.st (show 5 < 6 from by omega)
  have K4 := S4.1
  have K5 := S5.1
  obtain ⟨_, QK1, QR0, QR1, QR2, hF, hL, hP⟩ := id S4
  obtain ⟨FK0, FK1, FR0⟩ := id hF
  obtain ⟨LK0, LK1, LK2, LK3, LR0, LR1, LR2⟩ := id hL
  have h : aS I I (stA d (P 4)) v k T S N := ⟨hA, hV, fun _ _ => rfl⟩
  have h16 := hV.k16
  have hT1 := hV.tl
  have hS1 := hV.sl
  refine jx_C0.ofJ RX5 [some (.ref d)] (by decide) rfl rfl (Nat.le_of_ble_eq_true rfl) rfl ?_
  refine j_aload_n (pc' := 1) dX5_events_0 rfl rfl ?_
  refine j_getR (pc' := 4) f_X5_27 (by assumption) (by assumption) dX5_events_1 rfl ?_
  refine j_getR (pc' := 7) f_X5_121 (by assumption) (by assumption) dX5_events_4 rfl ?_
  refine j_getIv (pc' := 10) f_X5_125 (by assumption) (by first | (simp (disch := omega) only [jx_upS, jx_upK, jx_upA, h.num, h.tim, h.mod, h.act, h.akt, h.aks, h.f1, h.f2, h.f3, h.f4, h.f5, h.lg.1]; rfl) | rfl) dX5_events_7 rfl ?_
  refine j_reti dX5_events_10 rfl (by first | rfl | exact bi_n _) ?_
  exact ⟨rfl, rfl⟩

set_option maxRecDepth 100000 in
set_option maxHeartbeats 4000000 in
theorem c_X5_plant {E : jx_E} {l : Launch} {n : Nat} {kd : jx_K} {R : jx_R} {I : jx_I} {d : Nat} {P : Nat → Nat} {v : Nat → Int32} {k T S N : Nat} {x : Int32} (hs : sDk kd R d P) (hA : aSt I (stA d (P 4)) v k T) (hV : VI v k T S N) (hNb : N + 5000 < 2147483000) : jx_Ci E l yX5_plant cX5_plant 2 (some .int) 2 n kd R (I) [.ref d, .int x] (fun r I' => r = fPlant v T S x ∧ I' = I) := by
  obtain ⟨K0, K6, K7, R0, R1, R2, R4, R5, Rp, hsc, hst, hP6, hinj⟩ := id hs
  have S4 := hs.st (show 4 < 6 from by omega)
  have S5 := hs.st (show 5 < 6 from by omega)
  have K4 := S4.1
  have K5 := S5.1
  obtain ⟨_, QK1, QR0, QR1, QR2, hF, hL, hP⟩ := id S4
  obtain ⟨FK0, FK1, FR0⟩ := id hF
  obtain ⟨LK0, LK1, LK2, LK3, LR0, LR1, LR2⟩ := id hL
  have h : aS I I (stA d (P 4)) v k T S N := ⟨hA, hV, fun _ _ => rfl⟩
  have h16 := hV.k16
  have hT1 := hV.tl
  have hS1 := hV.sl
  obtain ⟨fb, hfb⟩ := hV.f
  refine jx_C0.ofJ RX5 [some (.ref d), some (.int x)] (by decide) rfl rfl (Nat.le_of_ble_eq_true rfl) rfl ?_
  refine j_iload_n (pc' := 1) dX5_plant_0 rfl rfl ?_
  by_cases t0 : x = nI 0
  ·
    refine j_tableIn (tgt := 36) (off := 35) dX5_plant_1 (by rw [t0]; decide) (by rw [t0]; decide) (by rw [t0]; rfl) (by decide) ?_
    refine j_aload_n (pc' := 37) dX5_plant_36 rfl rfl ?_
    refine j_getR (pc' := 40) f_X5_27 (by assumption) (by assumption) dX5_plant_37 rfl ?_
    refine j_getIv (pc' := 43) f_X5_79 (by assumption) (by first | (simp (disch := omega) only [jx_upS, jx_upK, jx_upA, h.num, h.tim, h.mod, h.act, h.akt, h.aks, h.f1, h.f2, h.f3, h.f4, h.f5, h.lg.1, hfb, hV.t]; rfl) | rfl) dX5_plant_40 rfl ?_
    refine j_reti dX5_plant_43 rfl (by first | rfl | exact bi_n _) ?_
    subst t0
    rw [fPlant, if_pos (by decide), if_pos (by decide)]
    exact ⟨hV.t.symm, rfl⟩
  ·
    by_cases t1 : x = nI 1
    ·
      refine j_tableIn (tgt := 44) (off := 43) dX5_plant_1 (by rw [t1]; decide) (by rw [t1]; decide) (by rw [t1]; rfl) (by decide) ?_
      refine j_aload_n (pc' := 45) dX5_plant_44 rfl rfl ?_
      refine j_getR (pc' := 48) f_X5_27 (by assumption) (by assumption) dX5_plant_45 rfl ?_
      refine j_getIv (pc' := 51) f_X5_82 (by assumption) (by first | (simp (disch := omega) only [jx_upS, jx_upK, jx_upA, h.num, h.tim, h.mod, h.act, h.akt, h.aks, h.f1, h.f2, h.f3, h.f4, h.f5, h.lg.1, hfb, hV.t]; rfl) | rfl) dX5_plant_48 rfl ?_
      refine j_reti dX5_plant_51 rfl (by first | rfl | exact bi_n _) ?_
      subst t1
      rw [fPlant, if_pos (by decide), if_neg (by decide), if_pos (by decide)]
      exact ⟨rfl, rfl⟩
    ·
      by_cases t2 : x = nI 2
      ·
        refine j_tableIn (tgt := 52) (off := 51) dX5_plant_1 (by rw [t2]; decide) (by rw [t2]; decide) (by rw [t2]; rfl) (by decide) ?_
        refine j_aload_n (pc' := 53) dX5_plant_52 rfl rfl ?_
        refine j_getR (pc' := 56) f_X5_27 (by assumption) (by assumption) dX5_plant_53 rfl ?_
        refine j_getR (pc' := 59) f_X5_85 (by assumption) (by assumption) dX5_plant_56 rfl ?_
        refine j_getIv (pc' := 62) f_X5_89 (by assumption) (by first | (simp (disch := omega) only [jx_upS, jx_upK, jx_upA, h.num, h.tim, h.mod, h.act, h.akt, h.aks, h.f1, h.f2, h.f3, h.f4, h.f5, h.lg.1, hfb, hV.t]; rfl) | rfl) dX5_plant_59 rfl ?_
        first | refine j_if_eqB' (tgt := 69) (pc' := 65) (by with_reducible rfl) dX5_plant_62 rfl (by decide) (fun c62 => ?_) (fun c62 => ?_) | refine j_if_eqN' (tgt := 69) (pc' := 65) (by with_reducible rfl) (by omega) dX5_plant_62 rfl (by decide) (fun c62 => ?_) (fun c62 => ?_) | refine j_if_eq (tgt := 69) (pc' := 65) dX5_plant_62 rfl (by decide) (fun c62 => ?_) (fun c62 => ?_)
        ·
          refine j_iconst (pc' := 70) (v := nI 0) dX5_plant_69 rfl rfl ?_
          refine j_reti dX5_plant_70 rfl (by first | rfl | exact bi_n _) ?_
          subst t2
          rw [fPlant, if_pos (by decide), if_neg (by decide), if_neg (by decide), if_pos (by decide)]
          rw [hfb, c62]
          exact ⟨rfl, rfl⟩
        ·
          refine j_iconst (pc' := 66) (v := nI 1) dX5_plant_65 rfl rfl ?_
          refine j_goto (tgt := 70) dX5_plant_66 (by decide) ?_
          refine j_reti dX5_plant_70 rfl (by first | rfl | exact bi_n _) ?_
          subst t2
          rw [fPlant, if_pos (by decide), if_neg (by decide), if_neg (by decide), if_pos (by decide)]
          rw [hfb, c62]
          exact ⟨rfl, rfl⟩
      ·
        by_cases t3 : x = nI 3
        ·
          refine j_tableIn (tgt := 71) (off := 70) dX5_plant_1 (by rw [t3]; decide) (by rw [t3]; decide) (by rw [t3]; rfl) (by decide) ?_
          refine j_aload_n (pc' := 72) dX5_plant_71 rfl rfl ?_
          refine j_getR (pc' := 75) f_X5_27 (by assumption) (by assumption) dX5_plant_72 rfl ?_
          refine j_getR (pc' := 78) f_X5_85 (by assumption) (by assumption) dX5_plant_75 rfl ?_
          refine j_aload_n (pc' := 79) dX5_plant_78 rfl rfl ?_
          refine j_getR (pc' := 82) f_X5_27 (by assumption) (by assumption) dX5_plant_79 rfl ?_
          refine j_getIv (pc' := 85) f_X5_79 (by assumption) (by first | (simp (disch := omega) only [jx_upS, jx_upK, jx_upA, h.num, h.tim, h.mod, h.act, h.akt, h.aks, h.f1, h.f2, h.f3, h.f4, h.f5, h.lg.1, hfb, hV.t]; rfl) | rfl) dX5_plant_82 rfl ?_
          refine j_cVi (pc' := 88) m_X5_95 (c_X0_rateAt hF (h.f1.trans hV.s) hS1 hT1 h.rg) (by assumption) (by decide) rfl rfl rfl ⟨Nat.le_of_ble_eq_true rfl, Nat.le_of_ble_eq_true rfl⟩ ⟨Nat.zero_le _, Nat.zero_le _⟩ (Nat.le_of_ble_eq_true rfl) dX5_plant_85 rfl (fun x1 I1 hq => ?_)
          obtain ⟨rfl, rfl⟩ := hq
          refine j_reti dX5_plant_88 rfl (by first | rfl | exact bi_n _) ?_
          subst t3
          rw [fPlant, if_pos (by decide), if_neg (by decide), if_neg (by decide), if_neg (by decide), if_pos (by decide)]
          exact ⟨rfl, rfl⟩
        ·
          by_cases t4 : x = nI 4
          ·
            refine j_tableIn (tgt := 89) (off := 88) dX5_plant_1 (by rw [t4]; decide) (by rw [t4]; decide) (by rw [t4]; rfl) (by decide) ?_
            refine j_aload_n (pc' := 90) dX5_plant_89 rfl rfl ?_
            refine j_getR (pc' := 93) f_X5_27 (by assumption) (by assumption) dX5_plant_90 rfl ?_
            refine j_getIv (pc' := 96) f_X5_98 (by assumption) (by first | (simp (disch := omega) only [jx_upS, jx_upK, jx_upA, h.num, h.tim, h.mod, h.act, h.akt, h.aks, h.f1, h.f2, h.f3, h.f4, h.f5, h.lg.1, hfb, hV.t]; rfl) | rfl) dX5_plant_93 rfl ?_
            refine j_reti dX5_plant_96 rfl (by first | rfl | exact bi_n _) ?_
            subst t4
            rw [fPlant, if_pos (by decide), if_neg (by decide), if_neg (by decide), if_neg (by decide), if_neg (by decide)]
            exact ⟨rfl, rfl⟩
          ·
            refine j_tableOut (tgt := 97) dX5_plant_1 (by
              have e0 : (x).toInt ≠ 0 := fun z => t0 (Int32.toInt_inj.mp (z.trans (by decide)))
              have e1 : (x).toInt ≠ 1 := fun z => t1 (Int32.toInt_inj.mp (z.trans (by decide)))
              have e2 : (x).toInt ≠ 2 := fun z => t2 (Int32.toInt_inj.mp (z.trans (by decide)))
              have e3 : (x).toInt ≠ 3 := fun z => t3 (Int32.toInt_inj.mp (z.trans (by decide)))
              have e4 : (x).toInt ≠ 4 := fun z => t4 (Int32.toInt_inj.mp (z.trans (by decide)))
              omega) (by decide) ?_
            refine j_sipush (pc' := 100) (v := -20001) dX5_plant_97 rfl rfl ?_
            refine j_reti dX5_plant_100 rfl (by first | rfl | exact bi_n _) ?_
            have hn : ¬ decide (nI 0 ≤ x ∧ x ≤ nI 4) = true := by
              intro z
              obtain ⟨j, a, b, e⟩ := in_nat z (by omega) (by omega)
              have : j = 0 ∨ j = 1 ∨ j = 2 ∨ j = 3 ∨ j = 4 := by omega
              rcases this with rfl | rfl | rfl | rfl | rfl
              · exact t0 e
              · exact t1 e
              · exact t2 e
              · exact t3 e
              · exact t4 e
            rw [fPlant, if_neg hn]
            exact ⟨rfl, rfl⟩

set_option maxRecDepth 100000 in
set_option maxHeartbeats 4000000 in
theorem c_X5_point {E : jx_E} {l : Launch} {n : Nat} {kd : jx_K} {R : jx_R} {I : jx_I} {d : Nat} {P : Nat → Nat} {v : Nat → Int32} {k T S N : Nat} {x y : Int32} (hs : sDk kd R d P) (hA : aSt I (stA d (P 4)) v k T) (hV : VI v k T S N) (hNb : N + 5000 < 2147483000) : jx_Ci E l yX5_point cX5_point 3 (some .int) 5 n kd R (I) [.ref d, .int x, .int y] (fun r I' => r = fPoint v x y ∧ I' = I) := by
  obtain ⟨K0, K6, K7, R0, R1, R2, R4, R5, Rp, hsc, hst, hP6, hinj⟩ := id hs
  have S4 := hs.st (show 4 < 6 from by omega)
  have S5 := hs.st (show 5 < 6 from by omega)
  have K4 := S4.1
  have K5 := S5.1
  obtain ⟨_, QK1, QR0, QR1, QR2, hF, hL, hP⟩ := id S4
  obtain ⟨FK0, FK1, FR0⟩ := id hF
  obtain ⟨LK0, LK1, LK2, LK3, LR0, LR1, LR2⟩ := id hL
  have h : aS I I (stA d (P 4)) v k T S N := ⟨hA, hV, fun _ _ => rfl⟩
  have h16 := hV.k16
  have hT1 := hV.tl
  have hS1 := hV.sl
  obtain ⟨rk, hrk⟩ := hV.r
  refine jx_C0.ofJ RX5 [some (.ref d), some (.int x), some (.int y)] (by decide) rfl rfl (Nat.le_of_ble_eq_true rfl) rfl ?_
  refine j_aload_n (pc' := 1) dX5_point_0 rfl rfl ?_
  refine j_getR (pc' := 4) f_X5_27 (by assumption) (by assumption) dX5_point_1 rfl ?_
  refine j_iload_n (pc' := 5) dX5_point_4 rfl rfl ?_
  refine j_cVi (pc' := 8) m_X5_55 (c_X4_hasPoint S4 h) (by assumption) (by decide) rfl rfl rfl ⟨Nat.le_of_ble_eq_true rfl, Nat.le_of_ble_eq_true rfl⟩ ⟨Nat.zero_le _, Nat.zero_le _⟩ (Nat.le_of_ble_eq_true rfl) dX5_point_5 rfl (fun x1 I1 hq => ?_)
  obtain ⟨rfl, rfl⟩ := hq
  first | refine j_if_eqB' (tgt := 21) (pc' := 11) (by with_reducible rfl) dX5_point_8 rfl (by decide) (fun c8 => ?_) (fun c8 => ?_) | refine j_if_eqN' (tgt := 21) (pc' := 11) (by with_reducible rfl) (by omega) dX5_point_8 rfl (by decide) (fun c8 => ?_) (fun c8 => ?_) | refine j_if_eq (tgt := 21) (pc' := 11) dX5_point_8 rfl (by decide) (fun c8 => ?_) (fun c8 => ?_)
  ·
    refine j_sipush (pc' := 24) (v := -20001) dX5_point_21 rfl rfl ?_
    refine j_reti dX5_point_24 rfl (by first | rfl | exact bi_n _) ?_
    rw [fPoint, if_neg (by rw [c8]; decide)]
    exact ⟨rfl, rfl⟩
  ·
    have hok := c8
    obtain ⟨i, hi, rfl⟩ := okP_nat hV.z h16 c8
    refine j_iload_n (pc' := 12) dX5_point_11 rfl rfl ?_
    refine j_iconst (pc' := 13) (v := nI 0) dX5_point_12 rfl rfl ?_
    refine j_bipush (pc' := 15) (v := nI 15) dX5_point_13 rfl rfl ?_
    refine j_cSi (pc' := 18) m_X5_59 (c_X5_isIn _ _ _ _ _ _ _ _ _) rfl rfl ⟨Nat.le_of_ble_eq_true rfl, Nat.le_of_ble_eq_true rfl⟩ ⟨Nat.zero_le _, Nat.zero_le _⟩ (Nat.le_of_ble_eq_true rfl) dX5_point_15 rfl (fun x1 I1 hq => ?_)
    obtain ⟨rfl, rfl⟩ := hq
    first | refine j_if_neB' (tgt := 25) (pc' := 21) (by with_reducible rfl) dX5_point_18 rfl (by decide) (fun c18 => ?_) (fun c18 => ?_) | refine j_if_neN' (tgt := 25) (pc' := 21) (by with_reducible rfl) (by omega) dX5_point_18 rfl (by decide) (fun c18 => ?_) (fun c18 => ?_) | refine j_if_ne (tgt := 25) (pc' := 21) dX5_point_18 rfl (by decide) (fun c18 => ?_) (fun c18 => ?_)
    ·
      have hyn := c18
      obtain ⟨w, hw0, hw1, rfl⟩ := in_nat c18 (by omega) (by omega)
      refine j_aload_n (pc' := 26) dX5_point_25 rfl rfl ?_
      refine j_getR (pc' := 29) f_X5_27 (by assumption) (by assumption) dX5_point_26 rfl ?_
      refine j_iload_n (pc' := 30) dX5_point_29 rfl rfl ?_
      refine j_iload_n (pc' := 31) dX5_point_30 rfl rfl ?_
      refine j_cVi (pc' := 34) m_X5_63 (c_X4_pointNumber S4 h hi hrk (by omega)) (by assumption) (by decide) rfl rfl rfl ⟨Nat.le_of_ble_eq_true rfl, Nat.le_of_ble_eq_true rfl⟩ ⟨Nat.zero_le _, Nat.zero_le _⟩ (Nat.le_of_ble_eq_true rfl) dX5_point_31 rfl (fun x1 I1 hq => ?_)
      obtain ⟨rfl, rfl⟩ := hq
      refine j_reti dX5_point_34 rfl (by first | rfl | exact bi_n _) ?_
      rw [fPoint, if_pos hok, if_pos hyn, nI_clamp (show w < 2147483648 from by omega), nI_clamp (show i < 2147483648 from by omega)]
      exact ⟨rfl, rfl⟩
    ·
      refine j_sipush (pc' := 24) (v := -20001) dX5_point_21 rfl rfl ?_
      refine j_reti dX5_point_24 rfl (by first | rfl | exact bi_n _) ?_
      rw [fPoint, if_pos hok, if_neg (by rw [c18]; decide)]
      exact ⟨rfl, rfl⟩

set_option maxRecDepth 100000 in
set_option maxHeartbeats 4000000 in
theorem c_X5_event {E : jx_E} {l : Launch} {n : Nat} {kd : jx_K} {R : jx_R} {I : jx_I} {d : Nat} {P : Nat → Nat} {v : Nat → Int32} {k T S N : Nat} {x y : Int32} (hs : sDk kd R d P) (hA : aSt I (stA d (P 4)) v k T) (hV : VI v k T S N) (hNb : N + 5000 < 2147483000) : jx_Ci E l yX5_event cX5_event 3 (some .int) 2 n kd R (I) [.ref d, .int x, .int y] (fun r I' => r = fEvent v N x y ∧ I' = I) := by
  obtain ⟨K0, K6, K7, R0, R1, R2, R4, R5, Rp, hsc, hst, hP6, hinj⟩ := id hs
  have S4 := hs.st (show 4 < 6 from by omega)
  have S5 := hs.st (show 5 < 6 from by omega)
  have K4 := S4.1
  have K5 := S5.1
  obtain ⟨_, QK1, QR0, QR1, QR2, hF, hL, hP⟩ := id S4
  obtain ⟨FK0, FK1, FR0⟩ := id hF
  obtain ⟨LK0, LK1, LK2, LK3, LR0, LR1, LR2⟩ := id hL
  have h : aS I I (stA d (P 4)) v k T S N := ⟨hA, hV, fun _ _ => rfl⟩
  have h16 := hV.k16
  have hT1 := hV.tl
  have hS1 := hV.sl
  have hwA : wA N ≤ 30 ∧ wA N ≤ N ∧ (wA N = N ∨ wA N = 30) := by unfold wA; split <;> omega
  refine jx_C0.ofJ RX5 [some (.ref d), some (.int x), some (.int y)] (by decide) rfl rfl (Nat.le_of_ble_eq_true rfl) rfl ?_
  refine j_iload_n (pc' := 1) dX5_event_0 rfl rfl ?_
  first | refine j_if_ltN' (tgt := 13) (pc' := 4) (by with_reducible rfl) (by omega) dX5_event_1 rfl (by decide) (fun c1 => ?_) (fun c1 => ?_) | refine j_if_lt (tgt := 13) (pc' := 4) dX5_event_1 rfl (by decide) (fun c1 => ?_) (fun c1 => ?_)
  ·
    refine j_sipush (pc' := 16) (v := -20001) dX5_event_13 rfl rfl ?_
    refine j_reti dX5_event_16 rfl (by first | rfl | exact bi_n _) ?_
    rw [fEvent, if_pos c1]
    exact ⟨rfl, rfl⟩
  ·
    obtain ⟨j, hj1, hjx⟩ := nI_of c1
    refine j_iload_n (pc' := 5) dX5_event_4 rfl rfl ?_
    refine j_iconst (pc' := 6) (v := nI 0) dX5_event_5 rfl rfl ?_
    refine j_iconst (pc' := 7) (v := nI 2) dX5_event_6 rfl rfl ?_
    refine j_cSi (pc' := 10) m_X5_59 (c_X5_isIn _ _ _ _ _ _ _ _ _) rfl rfl ⟨Nat.le_of_ble_eq_true rfl, Nat.le_of_ble_eq_true rfl⟩ ⟨Nat.zero_le _, Nat.zero_le _⟩ (Nat.le_of_ble_eq_true rfl) dX5_event_7 rfl (fun x1 I1 hq => ?_)
    obtain ⟨rfl, rfl⟩ := hq
    first | refine j_if_neB' (tgt := 17) (pc' := 13) (by with_reducible rfl) dX5_event_10 rfl (by decide) (fun c10 => ?_) (fun c10 => ?_) | refine j_if_neN' (tgt := 17) (pc' := 13) (by with_reducible rfl) (by omega) dX5_event_10 rfl (by decide) (fun c10 => ?_) (fun c10 => ?_) | refine j_if_ne (tgt := 17) (pc' := 13) dX5_event_10 rfl (by decide) (fun c10 => ?_) (fun c10 => ?_)
    ·
      have hyn := c10
      obtain ⟨w, hw0, hw1, rfl⟩ := in_nat c10 (by omega) (by omega)
      have hj1 : j < 2147483648 := hj1
      subst hjx
      refine j_iload_n (pc' := 18) dX5_event_17 rfl rfl ?_
      refine j_aload_n (pc' := 19) dX5_event_18 rfl rfl ?_
      refine j_getR (pc' := 22) f_X5_27 (by assumption) (by assumption) dX5_event_19 rfl ?_
      refine j_getR (pc' := 25) f_X5_121 (by assumption) (by assumption) dX5_event_22 rfl ?_
      refine j_cVi (pc' := 28) m_X5_130 (c_X1_kept hL (h.lg.1.trans hV.n) (by omega)) (by assumption) (by decide) rfl rfl rfl ⟨Nat.le_of_ble_eq_true rfl, Nat.le_of_ble_eq_true rfl⟩ ⟨Nat.zero_le _, Nat.zero_le _⟩ (Nat.le_of_ble_eq_true rfl) dX5_event_25 rfl (fun x1 I1 hq => ?_)
      obtain ⟨rfl, rfl⟩ := hq
      first | refine j_icmp_ltN' (tgt := 35) (pc' := 31) (by with_reducible rfl) (by with_reducible rfl) (by omega) (by omega) dX5_event_28 rfl (by decide) (fun c28 => ?_) (fun c28 => ?_) | refine j_icmp_lt (tgt := 35) (pc' := 31) dX5_event_28 rfl (by decide) (fun c28 => ?_) (fun c28 => ?_)
      ·
        refine j_aload_n (pc' := 36) dX5_event_35 rfl rfl ?_
        refine j_getR (pc' := 39) f_X5_27 (by assumption) (by assumption) dX5_event_36 rfl ?_
        refine j_getR (pc' := 42) f_X5_121 (by assumption) (by assumption) dX5_event_39 rfl ?_
        refine j_iload_n (pc' := 43) dX5_event_42 rfl rfl ?_
        refine j_iload_n (pc' := 44) dX5_event_43 rfl rfl ?_
        refine j_cVi (pc' := 47) m_X5_134 (c_X1_eventNumber hL h.lg hV.n (by omega) (by omega) (by omega)) (by assumption) (by decide) rfl rfl rfl ⟨Nat.le_of_ble_eq_true rfl, Nat.le_of_ble_eq_true rfl⟩ ⟨Nat.zero_le _, Nat.zero_le _⟩ (Nat.le_of_ble_eq_true rfl) dX5_event_44 rfl (fun x1 I1 hq => ?_)
        obtain ⟨rfl, rfl⟩ := hq
        refine j_reti dX5_event_47 rfl (by first | rfl | exact bi_n _) ?_
        rw [fEvent, if_neg c1, if_pos hyn, nI_clamp hj1, nI_clamp (show w < 2147483648 from by omega), evOf, if_pos (by omega), if_pos (by omega)]
        exact ⟨rfl, rfl⟩
      ·
        refine j_sipush (pc' := 34) (v := -20009) dX5_event_31 rfl rfl ?_
        refine j_reti dX5_event_34 rfl (by first | rfl | exact bi_n _) ?_
        rw [fEvent, if_neg c1, if_pos hyn, nI_clamp hj1, nI_clamp (show w < 2147483648 from by omega), evOf]
        by_cases e : j < 30
        · rw [if_pos e, if_neg (by omega)]; exact ⟨rfl, rfl⟩
        · rw [if_neg e]; exact ⟨rfl, rfl⟩
    ·
      refine j_sipush (pc' := 16) (v := -20001) dX5_event_13 rfl rfl ?_
      refine j_reti dX5_event_16 rfl (by first | rfl | exact bi_n _) ?_
      rw [fEvent, if_neg c1, if_neg (by rw [c10]; decide)]
      exact ⟨rfl, rfl⟩

set_option maxRecDepth 100000 in
set_option maxHeartbeats 4000000 in
theorem lp_X5_count {E : jx_E} {l : Launch} {n : Nat} {kd : jx_K} {R : jx_R} {I : jx_I} {d : Nat} {P : Nat → Nat} {v : Nat → Int32} {k T S N : Nat} {w : Nat} {rk : Nat → Nat} (hs : sDk kd R d P) (hA : aSt I (stA d (P 4)) v k T) (hV : VI v k T S N) (hNb : N + 5000 < 2147483000) (hrk : RK v k rk) (hw : w < 8) : ∀ (z i : Nat), i ≤ k → z + i = k + 1 → jx_J E l cX5_count 4 (some .int) RX5 false (jx_rm 5) 0 0 (jx_Q0 n kd R (jx_Pi (fun r I' => r = cntF v w k ∧ I' = I))) 0 0 n kd R (I) 18 [some (.ref d), some (.int (nI w)), some (.int (cntF v w i)), some (.int (nI i))] [] := by
  obtain ⟨K0, K6, K7, R0, R1, R2, R4, R5, Rp, hsc, hst, hP6, hinj⟩ := id hs
  have S4 := hs.st (show 4 < 6 from by omega)
  have S5 := hs.st (show 5 < 6 from by omega)
  have K4 := S4.1
  have K5 := S5.1
  obtain ⟨_, QK1, QR0, QR1, QR2, hF, hL, hP⟩ := id S4
  obtain ⟨FK0, FK1, FR0⟩ := id hF
  obtain ⟨LK0, LK1, LK2, LK3, LR0, LR1, LR2⟩ := id hL
  have h : aS I I (stA d (P 4)) v k T S N := ⟨hA, hV, fun _ _ => rfl⟩
  have h16 := hV.k16
  have hT1 := hV.tl
  have hS1 := hV.sl
  intro z
  induction z with
  | zero => intro i hi hz; omega
  | succ z ih =>
    intro i hi hz
    refine j_iload_n (pc' := 19) dX5_count_18 rfl rfl ?_
    refine j_aload_n (pc' := 20) dX5_count_19 rfl rfl ?_
    refine j_getR (pc' := 23) f_X5_27 (by assumption) (by assumption) dX5_count_20 rfl ?_
    refine j_getIv (pc' := 26) f_X5_66 (by assumption) (by first | (simp (disch := omega) only [jx_upS, jx_upK, jx_upA, h.num, h.tim, h.mod, h.act, h.akt, h.aks, h.f1, h.f2, h.f3, h.f4, h.f5, h.lg.1, hV.z]; rfl) | rfl) dX5_count_23 rfl ?_
    first | refine j_icmp_geN' (tgt := 50) (pc' := 29) (by with_reducible rfl) (by with_reducible rfl) (by omega) (by omega) dX5_count_26 rfl (by decide) (fun c26 => ?_) (fun c26 => ?_) | refine j_icmp_ge (tgt := 50) (pc' := 29) dX5_count_26 rfl (by decide) (fun c26 => ?_) (fun c26 => ?_)
    ·
      have : i = k := by omega
      subst this
      refine j_iload_n (pc' := 51) dX5_count_50 rfl rfl ?_
      refine j_reti dX5_count_51 rfl (by first | rfl | exact bi_n _) ?_
      exact ⟨rfl, rfl⟩
    ·
      refine j_aload_n (pc' := 30) dX5_count_29 rfl rfl ?_
      refine j_getR (pc' := 33) f_X5_27 (by assumption) (by assumption) dX5_count_30 rfl ?_
      refine j_iload_n (pc' := 34) dX5_count_33 rfl rfl ?_
      refine j_iload_n (pc' := 35) dX5_count_34 rfl rfl ?_
      refine j_cVi (pc' := 38) m_X5_117 (c_X4_isCounted S4 h (by omega) hrk hw) (by assumption) (by decide) rfl rfl rfl ⟨Nat.le_of_ble_eq_true rfl, Nat.le_of_ble_eq_true rfl⟩ ⟨Nat.zero_le _, Nat.zero_le _⟩ (Nat.le_of_ble_eq_true rfl) dX5_count_35 rfl (fun x1 I1 hq => ?_)
      obtain ⟨rfl, rfl⟩ := hq
      first | refine j_if_eqB' (tgt := 44) (pc' := 41) (by with_reducible rfl) dX5_count_38 rfl (by decide) (fun c38 => ?_) (fun c38 => ?_) | refine j_if_eqN' (tgt := 44) (pc' := 41) (by with_reducible rfl) (by omega) dX5_count_38 rfl (by decide) (fun c38 => ?_) (fun c38 => ?_) | refine j_if_eq (tgt := 44) (pc' := 41) dX5_count_38 rfl (by decide) (fun c38 => ?_) (fun c38 => ?_)
      ·
        first | refine j_iincN (pc' := 47) (lv' := [_, _, _, _]) dX5_count_44 rfl rfl (by decide) rfl ?_ | refine j_iinc (pc' := 47) (lv' := [_, _, _, _]) dX5_count_44 rfl rfl rfl (by decide) rfl ?_
        refine j_goto (tgt := 18) dX5_count_47 (by decide) ?_
        have e : cntF v w (i + 1) = cntF v w i := by rw [cntF, if_neg (by rw [c38]; decide)]; exact Int32.add_zero _
        have e2 := ih (i + 1) (by omega) (by omega)
        rw [e] at e2
        exact e2
      ·
        skip
        first | refine j_iincN (pc' := 44) (lv' := [_, _, _, _]) dX5_count_41 rfl rfl (by decide) rfl ?_ | refine j_iinc (pc' := 44) (lv' := [_, _, _, _]) dX5_count_41 rfl rfl rfl (by decide) rfl ?_
        first | refine j_iincN (pc' := 47) (lv' := [_, _, _, _]) dX5_count_44 rfl rfl (by decide) rfl ?_ | refine j_iinc (pc' := 47) (lv' := [_, _, _, _]) dX5_count_44 rfl rfl rfl (by decide) rfl ?_
        refine j_goto (tgt := 18) dX5_count_47 (by decide) ?_
        have e : cntF v w (i + 1) = cntF v w i + nI 1 := by rw [cntF, if_pos c38]
        have e2 := ih (i + 1) (by omega) (by omega)
        rw [e] at e2
        exact e2
set_option maxRecDepth 100000 in
set_option maxHeartbeats 4000000 in
theorem c_X5_count {E : jx_E} {l : Launch} {n : Nat} {kd : jx_K} {R : jx_R} {I : jx_I} {d : Nat} {P : Nat → Nat} {v : Nat → Int32} {k T S N : Nat} {x : Int32} (hs : sDk kd R d P) (hA : aSt I (stA d (P 4)) v k T) (hV : VI v k T S N) (hNb : N + 5000 < 2147483000) : jx_Ci E l yX5_count cX5_count 4 (some .int) 5 n kd R (I) [.ref d, .int x] (fun r I' => r = fCount v k x ∧ I' = I) := by
  obtain ⟨K0, K6, K7, R0, R1, R2, R4, R5, Rp, hsc, hst, hP6, hinj⟩ := id hs
  have S4 := hs.st (show 4 < 6 from by omega)
  have S5 := hs.st (show 5 < 6 from by omega)
  have K4 := S4.1
  have K5 := S5.1
  obtain ⟨_, QK1, QR0, QR1, QR2, hF, hL, hP⟩ := id S4
  obtain ⟨FK0, FK1, FR0⟩ := id hF
  obtain ⟨LK0, LK1, LK2, LK3, LR0, LR1, LR2⟩ := id hL
  have h : aS I I (stA d (P 4)) v k T S N := ⟨hA, hV, fun _ _ => rfl⟩
  have h16 := hV.k16
  have hT1 := hV.tl
  have hS1 := hV.sl
  obtain ⟨rk, hrk⟩ := hV.r
  refine jx_C0.ofJ RX5 [some (.ref d), some (.int x), none, none] (by decide) rfl rfl (Nat.le_of_ble_eq_true rfl) rfl ?_
  refine j_iload_n (pc' := 1) dX5_count_0 rfl rfl ?_
  refine j_iconst (pc' := 2) (v := nI 0) dX5_count_1 rfl rfl ?_
  refine j_bipush (pc' := 4) (v := nI 7) dX5_count_2 rfl rfl ?_
  refine j_cSi (pc' := 7) m_X5_59 (c_X5_isIn _ _ _ _ _ _ _ _ _) rfl rfl ⟨Nat.le_of_ble_eq_true rfl, Nat.le_of_ble_eq_true rfl⟩ ⟨Nat.zero_le _, Nat.zero_le _⟩ (Nat.le_of_ble_eq_true rfl) dX5_count_4 rfl (fun x1 I1 hq => ?_)
  obtain ⟨rfl, rfl⟩ := hq
  first | refine j_if_neB' (tgt := 14) (pc' := 10) (by with_reducible rfl) dX5_count_7 rfl (by decide) (fun c7 => ?_) (fun c7 => ?_) | refine j_if_neN' (tgt := 14) (pc' := 10) (by with_reducible rfl) (by omega) dX5_count_7 rfl (by decide) (fun c7 => ?_) (fun c7 => ?_) | refine j_if_ne (tgt := 14) (pc' := 10) dX5_count_7 rfl (by decide) (fun c7 => ?_) (fun c7 => ?_)
  ·
    have hoy := c7
    obtain ⟨w, hw0, hw, rfl⟩ := in_nat c7 (by omega) (by omega)
    refine j_iconst (pc' := 15) (v := nI 0) dX5_count_14 rfl rfl ?_
    refine j_istore_n (pc' := 16) (lv' := [_, _, _, _]) dX5_count_15 rfl (by decide) rfl ?_
    refine j_iconst (pc' := 17) (v := nI 0) dX5_count_16 rfl rfl ?_
    refine j_istore_n (pc' := 18) (lv' := [_, _, _, _]) dX5_count_17 rfl (by decide) rfl ?_
    refine ct_post_i (P := fun r I' => r = cntF v w k ∧ I' = _) ?_ (lp_X5_count hs hA hV hNb hrk (show w < 8 from by omega) (k + 1) 0 (by omega) (by omega))
    intro r I' hq
    obtain ⟨rfl, rfl⟩ := hq
    exact ⟨by rw [fCount, if_pos hoy, nI_clamp (by omega)], rfl⟩
  ·
    refine j_sipush (pc' := 13) (v := -20001) dX5_count_10 rfl rfl ?_
    refine j_reti dX5_count_13 rfl (by first | rfl | exact bi_n _) ?_
    rw [fCount, if_neg (by rw [c7]; decide)]
    exact ⟨rfl, rfl⟩

set_option maxRecDepth 100000 in
set_option maxHeartbeats 4000000 in
theorem lp_X5_worst {E : jx_E} {l : Launch} {n : Nat} {kd : jx_K} {R : jx_R} {I : jx_I} {d : Nat} {P : Nat → Nat} {v : Nat → Int32} {k T S N : Nat} (hs : sDk kd R d P) (hA : aSt I (stA d (P 4)) v k T) (hV : VI v k T S N) (hNb : N + 5000 < 2147483000) : ∀ (z i : Nat) (y : Option Value), i ≤ k → z + i = k + 1 → jx_J E l cX5_worst 5 (some .int) RX5 false (jx_rm 5) 0 0 (jx_Q0 n kd R (jx_Pi (fun r I' => r = (wOut v N k).1 ∧ I' = I))) 0 0 n kd R (I) 8 [some (.ref d), some (.int (wOut v N i).1), some (.int (wOut v N i).2), some (.int (nI i)), y] [] := by
  obtain ⟨K0, K6, K7, R0, R1, R2, R4, R5, Rp, hsc, hst, hP6, hinj⟩ := id hs
  have S4 := hs.st (show 4 < 6 from by omega)
  have S5 := hs.st (show 5 < 6 from by omega)
  have K4 := S4.1
  have K5 := S5.1
  obtain ⟨_, QK1, QR0, QR1, QR2, hF, hL, hP⟩ := id S4
  obtain ⟨FK0, FK1, FR0⟩ := id hF
  obtain ⟨LK0, LK1, LK2, LK3, LR0, LR1, LR2⟩ := id hL
  have h : aS I I (stA d (P 4)) v k T S N := ⟨hA, hV, fun _ _ => rfl⟩
  have h16 := hV.k16
  have hT1 := hV.tl
  have hS1 := hV.sl
  intro z
  induction z with
  | zero => intro i y hi hz; omega
  | succ z ih =>
    intro i y hi hz
    refine j_iload_n (pc' := 9) dX5_worst_8 rfl rfl ?_
    refine j_aload_n (pc' := 10) dX5_worst_9 rfl rfl ?_
    refine j_getR (pc' := 13) f_X5_27 (by assumption) (by assumption) dX5_worst_10 rfl ?_
    refine j_getIv (pc' := 16) f_X5_66 (by assumption) (by first | (simp (disch := omega) only [jx_upS, jx_upK, jx_upA, h.num, h.tim, h.mod, h.act, h.akt, h.aks, h.f1, h.f2, h.f3, h.f4, h.f5, h.lg.1, hV.z]; rfl) | rfl) dX5_worst_13 rfl ?_
    first | refine j_icmp_geN' (tgt := 49) (pc' := 19) (by with_reducible rfl) (by with_reducible rfl) (by omega) (by omega) dX5_worst_16 rfl (by decide) (fun c16 => ?_) (fun c16 => ?_) | refine j_icmp_ge (tgt := 49) (pc' := 19) dX5_worst_16 rfl (by decide) (fun c16 => ?_) (fun c16 => ?_)
    ·
      have : i = k := by omega
      subst this
      refine j_iload_n (pc' := 50) dX5_worst_49 rfl rfl ?_
      refine j_reti dX5_worst_50 rfl (by first | rfl | exact bi_n _) ?_
      exact ⟨rfl, rfl⟩
    ·
      refine j_aload_n (pc' := 20) dX5_worst_19 rfl rfl ?_
      refine j_getR (pc' := 23) f_X5_27 (by assumption) (by assumption) dX5_worst_20 rfl ?_
      refine j_getR (pc' := 26) f_X5_121 (by assumption) (by assumption) dX5_worst_23 rfl ?_
      refine j_iload_n (pc' := 27) dX5_worst_26 rfl rfl ?_
      refine j_cVi (pc' := 30) m_X5_143 (c_X1_activationsOf hL h.lg hV.n (by omega) (by omega)) (by assumption) (by decide) rfl rfl rfl ⟨Nat.le_of_ble_eq_true rfl, Nat.le_of_ble_eq_true rfl⟩ ⟨Nat.zero_le _, Nat.zero_le _⟩ (Nat.le_of_ble_eq_true rfl) dX5_worst_27 rfl (fun x1 I1 hq => ?_)
      obtain ⟨rfl, rfl⟩ := hq
      refine j_istore (pc' := 32) (lv' := [_, _, _, _, _]) dX5_worst_30 rfl (by decide) rfl ?_
      refine j_iload (pc' := 34) dX5_worst_32 rfl rfl ?_
      refine j_iload_n (pc' := 35) dX5_worst_34 rfl rfl ?_
      first | refine j_icmp_leN' (tgt := 43) (pc' := 38) (by with_reducible rfl) (by with_reducible rfl) (by omega) (by omega) dX5_worst_35 rfl (by decide) (fun c35 => ?_) (fun c35 => ?_) | refine j_icmp_le (tgt := 43) (pc' := 38) dX5_worst_35 rfl (by decide) (fun c35 => ?_) (fun c35 => ?_)
      ·
        skip
        first | refine j_iincN (pc' := 46) (lv' := [_, _, _, _, _]) dX5_worst_43 rfl rfl (by decide) rfl ?_ | refine j_iinc (pc' := 46) (lv' := [_, _, _, _, _]) dX5_worst_43 rfl rfl rfl (by decide) rfl ?_
        refine j_goto (tgt := 8) dX5_worst_46 (by decide) ?_
        have e : wOut v N (i + 1) = wOut v N i := by rw [wOut, if_pos c35, if_pos c35]
        have e2 := ih (i + 1) (some (.int (wIn v N i (wA N)))) (by omega) (by omega)
        rw [e] at e2
        exact e2
      ·
        refine j_iload_n (pc' := 39) dX5_worst_38 rfl rfl ?_
        refine j_istore_n (pc' := 40) (lv' := [_, _, _, _, _]) dX5_worst_39 rfl (by decide) rfl ?_
        refine j_iload (pc' := 42) dX5_worst_40 rfl rfl ?_
        refine j_istore_n (pc' := 43) (lv' := [_, _, _, _, _]) dX5_worst_42 rfl (by decide) rfl ?_
        first | refine j_iincN (pc' := 46) (lv' := [_, _, _, _, _]) dX5_worst_43 rfl rfl (by decide) rfl ?_ | refine j_iinc (pc' := 46) (lv' := [_, _, _, _, _]) dX5_worst_43 rfl rfl rfl (by decide) rfl ?_
        refine j_goto (tgt := 8) dX5_worst_46 (by decide) ?_
        have e : wOut v N (i + 1) = (nI i, wIn v N i (wA N)) := by rw [wOut, if_neg c35, if_neg c35]
        have e2 := ih (i + 1) (some (.int (wIn v N i (wA N)))) (by omega) (by omega)
        rw [e] at e2
        exact e2
set_option maxRecDepth 100000 in
set_option maxHeartbeats 4000000 in
theorem c_X5_worst {E : jx_E} {l : Launch} {n : Nat} {kd : jx_K} {R : jx_R} {I : jx_I} {d : Nat} {P : Nat → Nat} {v : Nat → Int32} {k T S N : Nat} (hs : sDk kd R d P) (hA : aSt I (stA d (P 4)) v k T) (hV : VI v k T S N) (hNb : N + 5000 < 2147483000) : jx_Ci E l yX5_worst cX5_worst 5 (some .int) 5 n kd R (I) [.ref d] (fun r I' => r = (wOut v N k).1 ∧ I' = I) := by
  obtain ⟨K0, K6, K7, R0, R1, R2, R4, R5, Rp, hsc, hst, hP6, hinj⟩ := id hs
  have S4 := hs.st (show 4 < 6 from by omega)
  have S5 := hs.st (show 5 < 6 from by omega)
  have K4 := S4.1
  have K5 := S5.1
  obtain ⟨_, QK1, QR0, QR1, QR2, hF, hL, hP⟩ := id S4
  obtain ⟨FK0, FK1, FR0⟩ := id hF
  obtain ⟨LK0, LK1, LK2, LK3, LR0, LR1, LR2⟩ := id hL
  have h : aS I I (stA d (P 4)) v k T S N := ⟨hA, hV, fun _ _ => rfl⟩
  have h16 := hV.k16
  have hT1 := hV.tl
  have hS1 := hV.sl
  refine jx_C0.ofJ RX5 [some (.ref d), none, none, none, none] (by decide) rfl rfl (Nat.le_of_ble_eq_true rfl) rfl ?_
  refine j_sipush (pc' := 3) (v := -20009) dX5_worst_0 rfl rfl ?_
  refine j_istore_n (pc' := 4) (lv' := [_, _, _, _, _]) dX5_worst_3 rfl (by decide) rfl ?_
  refine j_iconst (pc' := 5) (v := nI 0) dX5_worst_4 rfl rfl ?_
  refine j_istore_n (pc' := 6) (lv' := [_, _, _, _, _]) dX5_worst_5 rfl (by decide) rfl ?_
  refine j_iconst (pc' := 7) (v := nI 0) dX5_worst_6 rfl rfl ?_
  refine j_istore_n (pc' := 8) (lv' := [_, _, _, _, _]) dX5_worst_7 rfl (by decide) rfl ?_
  exact lp_X5_worst hs hA hV hNb (k + 1) 0 none (by omega) (by omega)

set_option maxRecDepth 100000 in
set_option maxHeartbeats 4000000 in
theorem c_X5_replay {E : jx_E} {l : Launch} {n : Nat} {kd : jx_K} {R : jx_R} {I : jx_I} {d : Nat} {P : Nat → Nat} {v : Nat → Int32} {k T S N : Nat} {x y : Int32} (hs : sDk kd R d P) (hA : aSt I (stA d (P 4)) v k T) (hV : VI v k T S N) (hNb : N + 5000 < 2147483000) : jx_Ci E l yX5_replay cX5_replay 3 (some .int) 4 n kd R (I) [.ref d, .int x, .int y] (fun r I' => r = fReplay v x y ∧ I' = I) := by
  obtain ⟨K0, K6, K7, R0, R1, R2, R4, R5, Rp, hsc, hst, hP6, hinj⟩ := id hs
  have S4 := hs.st (show 4 < 6 from by omega)
  have S5 := hs.st (show 5 < 6 from by omega)
  have K4 := S4.1
  have K5 := S5.1
  obtain ⟨_, QK1, QR0, QR1, QR2, hF, hL, hP⟩ := id S4
  obtain ⟨FK0, FK1, FR0⟩ := id hF
  obtain ⟨LK0, LK1, LK2, LK3, LR0, LR1, LR2⟩ := id hL
  have h : aS I I (stA d (P 4)) v k T S N := ⟨hA, hV, fun _ _ => rfl⟩
  have h16 := hV.k16
  have hT1 := hV.tl
  have hS1 := hV.sl
  refine jx_C0.ofJ RX5 [some (.ref d), some (.int x), some (.int y)] (by decide) rfl rfl (Nat.le_of_ble_eq_true rfl) rfl ?_
  refine j_aload_n (pc' := 1) dX5_replay_0 rfl rfl ?_
  refine j_getR (pc' := 4) f_X5_27 (by assumption) (by assumption) dX5_replay_1 rfl ?_
  refine j_iload_n (pc' := 5) dX5_replay_4 rfl rfl ?_
  refine j_cVi (pc' := 8) m_X5_55 (c_X4_hasPoint S4 h) (by assumption) (by decide) rfl rfl rfl ⟨Nat.le_of_ble_eq_true rfl, Nat.le_of_ble_eq_true rfl⟩ ⟨Nat.zero_le _, Nat.zero_le _⟩ (Nat.le_of_ble_eq_true rfl) dX5_replay_5 rfl (fun x1 I1 hq => ?_)
  obtain ⟨rfl, rfl⟩ := hq
  first | refine j_if_eqB' (tgt := 22) (pc' := 11) (by with_reducible rfl) dX5_replay_8 rfl (by decide) (fun c8 => ?_) (fun c8 => ?_) | refine j_if_eqN' (tgt := 22) (pc' := 11) (by with_reducible rfl) (by omega) dX5_replay_8 rfl (by decide) (fun c8 => ?_) (fun c8 => ?_) | refine j_if_eq (tgt := 22) (pc' := 11) dX5_replay_8 rfl (by decide) (fun c8 => ?_) (fun c8 => ?_)
  ·
    refine j_sipush (pc' := 25) (v := -20001) dX5_replay_22 rfl rfl ?_
    refine j_reti dX5_replay_25 rfl (by first | rfl | exact bi_n _) ?_
    rw [fReplay, if_neg (by rw [c8]; decide)]
    exact ⟨rfl, rfl⟩
  ·
    have hok := c8
    obtain ⟨i, hi, rfl⟩ := okP_nat hV.z h16 c8
    obtain ⟨K, hK5, hK⟩ := hV.K5 i hi
    obtain ⟨hRi, hPi⟩ := hP i (by omega)
    obtain ⟨P0, P1, P2, PR0, PR1⟩ := id hPi
    refine j_iload_n (pc' := 12) dX5_replay_11 rfl rfl ?_
    refine j_iconst (pc' := 13) (v := nI 0) dX5_replay_12 rfl rfl ?_
    refine j_sipush (pc' := 16) (v := nI 1000) dX5_replay_13 rfl rfl ?_
    refine j_cSi (pc' := 19) m_X5_59 (c_X5_isIn _ _ _ _ _ _ _ _ _) rfl rfl ⟨Nat.le_of_ble_eq_true rfl, Nat.le_of_ble_eq_true rfl⟩ ⟨Nat.zero_le _, Nat.zero_le _⟩ (Nat.le_of_ble_eq_true rfl) dX5_replay_16 rfl (fun x1 I1 hq => ?_)
    obtain ⟨rfl, rfl⟩ := hq
    first | refine j_if_neB' (tgt := 26) (pc' := 22) (by with_reducible rfl) dX5_replay_19 rfl (by decide) (fun c19 => ?_) (fun c19 => ?_) | refine j_if_neN' (tgt := 26) (pc' := 22) (by with_reducible rfl) (by omega) dX5_replay_19 rfl (by decide) (fun c19 => ?_) (fun c19 => ?_) | refine j_if_ne (tgt := 26) (pc' := 22) dX5_replay_19 rfl (by decide) (fun c19 => ?_) (fun c19 => ?_)
    ·
      have hyn := c19
      refine j_aload_n (pc' := 27) dX5_replay_26 rfl rfl ?_
      refine j_getR (pc' := 30) f_X5_27 (by assumption) (by assumption) dX5_replay_27 rfl ?_
      refine j_getR (pc' := 33) f_X5_146 (by assumption) (by assumption) dX5_replay_30 rfl ?_
      refine j_iload_n (pc' := 34) dX5_replay_33 rfl rfl ?_
      first | refine j_aaldP (pc' := 35) (by assumption) rfl (by omega) (by omega) (by first | assumption | (simp (disch := omega) only [h.num, h.tim, h.mod, h.act, h.akt, h.aks, h.f1, h.f2, h.f3, h.f4, h.f5, h.lg.1]; done)) dX5_replay_34 rfl ?_ | refine j_aaldS (pc' := 35) (by assumption) rfl (by omega) (by omega) (by assumption) dX5_replay_34 rfl ?_
      refine j_iload_n (pc' := 36) dX5_replay_35 rfl rfl ?_
      refine j_cVi (pc' := 39) m_X5_150 (c_X2_alarmsWith hPi (h.pt hi) hK hK5) (by assumption) (by decide) rfl rfl rfl ⟨Nat.le_of_ble_eq_true rfl, Nat.le_of_ble_eq_true rfl⟩ ⟨Nat.zero_le _, Nat.zero_le _⟩ (Nat.le_of_ble_eq_true rfl) dX5_replay_36 rfl (fun x1 I1 hq => ?_)
      obtain ⟨rfl, rfl⟩ := hq
      refine j_reti dX5_replay_39 rfl (by first | rfl | exact bi_n _) ?_
      rw [fReplay, if_pos hok, if_pos hyn, nI_clamp (show i < 2147483648 from by omega), kp_of hK (by omega) hK5]
      exact ⟨rfl, rfl⟩
    ·
      refine j_sipush (pc' := 25) (v := -20001) dX5_replay_22 rfl rfl ?_
      refine j_reti dX5_replay_25 rfl (by first | rfl | exact bi_n _) ?_
      rw [fReplay, if_pos hok, if_neg (by rw [c19]; decide)]
      exact ⟨rfl, rfl⟩

set_option maxRecDepth 100000 in
set_option maxHeartbeats 4000000 in
theorem c_X5_leastDeadband {E : jx_E} {l : Launch} {n : Nat} {kd : jx_K} {R : jx_R} {I : jx_I} {d : Nat} {P : Nat → Nat} {v : Nat → Int32} {k T S N : Nat} {x y : Int32} (hs : sDk kd R d P) (hA : aSt I (stA d (P 4)) v k T) (hV : VI v k T S N) (hNb : N + 5000 < 2147483000) : jx_Ci E l yX5_leastDeadband cX5_leastDeadband 3 (some .int) 4 n kd R (I) [.ref d, .int x, .int y] (fun r I' => r = fLeast v x y ∧ I' = I) := by
  obtain ⟨K0, K6, K7, R0, R1, R2, R4, R5, Rp, hsc, hst, hP6, hinj⟩ := id hs
  have S4 := hs.st (show 4 < 6 from by omega)
  have S5 := hs.st (show 5 < 6 from by omega)
  have K4 := S4.1
  have K5 := S5.1
  obtain ⟨_, QK1, QR0, QR1, QR2, hF, hL, hP⟩ := id S4
  obtain ⟨FK0, FK1, FR0⟩ := id hF
  obtain ⟨LK0, LK1, LK2, LK3, LR0, LR1, LR2⟩ := id hL
  have h : aS I I (stA d (P 4)) v k T S N := ⟨hA, hV, fun _ _ => rfl⟩
  have h16 := hV.k16
  have hT1 := hV.tl
  have hS1 := hV.sl
  refine jx_C0.ofJ RX5 [some (.ref d), some (.int x), some (.int y)] (by decide) rfl rfl (Nat.le_of_ble_eq_true rfl) rfl ?_
  refine j_aload_n (pc' := 1) dX5_leastDeadband_0 rfl rfl ?_
  refine j_getR (pc' := 4) f_X5_27 (by assumption) (by assumption) dX5_leastDeadband_1 rfl ?_
  refine j_iload_n (pc' := 5) dX5_leastDeadband_4 rfl rfl ?_
  refine j_cVi (pc' := 8) m_X5_55 (c_X4_hasPoint S4 h) (by assumption) (by decide) rfl rfl rfl ⟨Nat.le_of_ble_eq_true rfl, Nat.le_of_ble_eq_true rfl⟩ ⟨Nat.zero_le _, Nat.zero_le _⟩ (Nat.le_of_ble_eq_true rfl) dX5_leastDeadband_5 rfl (fun x1 I1 hq => ?_)
  obtain ⟨rfl, rfl⟩ := hq
  first | refine j_if_eqB' (tgt := 21) (pc' := 11) (by with_reducible rfl) dX5_leastDeadband_8 rfl (by decide) (fun c8 => ?_) (fun c8 => ?_) | refine j_if_eqN' (tgt := 21) (pc' := 11) (by with_reducible rfl) (by omega) dX5_leastDeadband_8 rfl (by decide) (fun c8 => ?_) (fun c8 => ?_) | refine j_if_eq (tgt := 21) (pc' := 11) dX5_leastDeadband_8 rfl (by decide) (fun c8 => ?_) (fun c8 => ?_)
  ·
    refine j_sipush (pc' := 24) (v := -20001) dX5_leastDeadband_21 rfl rfl ?_
    refine j_reti dX5_leastDeadband_24 rfl (by first | rfl | exact bi_n _) ?_
    rw [fLeast, if_neg (by rw [c8]; decide)]
    exact ⟨rfl, rfl⟩
  ·
    have hok := c8
    obtain ⟨i, hi, rfl⟩ := okP_nat hV.z h16 c8
    obtain ⟨K, hK5, hK⟩ := hV.K5 i hi
    obtain ⟨hRi, hPi⟩ := hP i (by omega)
    obtain ⟨P0, P1, P2, PR0, PR1⟩ := id hPi
    refine j_iload_n (pc' := 12) dX5_leastDeadband_11 rfl rfl ?_
    refine j_iconst (pc' := 13) (v := nI 0) dX5_leastDeadband_12 rfl rfl ?_
    refine j_bipush (pc' := 15) (v := nI 40) dX5_leastDeadband_13 rfl rfl ?_
    refine j_cSi (pc' := 18) m_X5_59 (c_X5_isIn _ _ _ _ _ _ _ _ _) rfl rfl ⟨Nat.le_of_ble_eq_true rfl, Nat.le_of_ble_eq_true rfl⟩ ⟨Nat.zero_le _, Nat.zero_le _⟩ (Nat.le_of_ble_eq_true rfl) dX5_leastDeadband_15 rfl (fun x1 I1 hq => ?_)
    obtain ⟨rfl, rfl⟩ := hq
    first | refine j_if_neB' (tgt := 25) (pc' := 21) (by with_reducible rfl) dX5_leastDeadband_18 rfl (by decide) (fun c18 => ?_) (fun c18 => ?_) | refine j_if_neN' (tgt := 25) (pc' := 21) (by with_reducible rfl) (by omega) dX5_leastDeadband_18 rfl (by decide) (fun c18 => ?_) (fun c18 => ?_) | refine j_if_ne (tgt := 25) (pc' := 21) dX5_leastDeadband_18 rfl (by decide) (fun c18 => ?_) (fun c18 => ?_)
    ·
      have hyn := c18
      refine j_aload_n (pc' := 26) dX5_leastDeadband_25 rfl rfl ?_
      refine j_getR (pc' := 29) f_X5_27 (by assumption) (by assumption) dX5_leastDeadband_26 rfl ?_
      refine j_getR (pc' := 32) f_X5_146 (by assumption) (by assumption) dX5_leastDeadband_29 rfl ?_
      refine j_iload_n (pc' := 33) dX5_leastDeadband_32 rfl rfl ?_
      first | refine j_aaldP (pc' := 34) (by assumption) rfl (by omega) (by omega) (by first | assumption | (simp (disch := omega) only [h.num, h.tim, h.mod, h.act, h.akt, h.aks, h.f1, h.f2, h.f3, h.f4, h.f5, h.lg.1]; done)) dX5_leastDeadband_33 rfl ?_ | refine j_aaldS (pc' := 34) (by assumption) rfl (by omega) (by omega) (by assumption) dX5_leastDeadband_33 rfl ?_
      refine j_iload_n (pc' := 35) dX5_leastDeadband_34 rfl rfl ?_
      refine j_cVi (pc' := 38) m_X5_155 (c_X2_leastDeadbandFor hPi (h.pt hi) hV hi hK hK5) (by assumption) (by decide) rfl rfl rfl ⟨Nat.le_of_ble_eq_true rfl, Nat.le_of_ble_eq_true rfl⟩ ⟨Nat.zero_le _, Nat.zero_le _⟩ (Nat.le_of_ble_eq_true rfl) dX5_leastDeadband_35 rfl (fun x1 I1 hq => ?_)
      obtain ⟨rfl, rfl⟩ := hq
      refine j_reti dX5_leastDeadband_38 rfl (by first | rfl | exact bi_n _) ?_
      rw [fLeast, if_pos hok, if_pos hyn, nI_clamp (show i < 2147483648 from by omega), kp_of hK (by omega) hK5]
      exact ⟨rfl, rfl⟩
    ·
      refine j_sipush (pc' := 24) (v := -20001) dX5_leastDeadband_21 rfl rfl ?_
      refine j_reti dX5_leastDeadband_24 rfl (by first | rfl | exact bi_n _) ?_
      rw [fLeast, if_pos hok, if_neg (by rw [c18]; decide)]
      exact ⟨rfl, rfl⟩

theorem insO_hi {v : Nat → Int32} {i : Nat} : ∀ (w : Nat) (o : Nat → Int32) (j : Nat), w < j → insO v i w o j = o j := by
  intro w
  induction w with
  | zero => intro o j hj; simp only [insO]; exact pk_un (by omega)
  | succ w ih =>
    intro o j hj
    simp only [insO]
    split
    · rw [ih _ _ (by omega)]; exact pk_un (by omega)
    · exact pk_un (by omega)
theorem insO_cg {v : Nat → Int32} {i : Nat} : ∀ (w : Nat) (o o' : Nat → Int32), (∀ j, j < w → o j = o' j) → ∀ j, j < w + 1 → insO v i w o j = insO v i w o' j := by
  intro w
  induction w with
  | zero =>
    intro o o' h j hj
    have : j = 0 := by omega
    subst this
    simp only [insO, pk_us]
  | succ w ih =>
    intro o o' h j hj
    simp only [insO]
    rw [h w (by omega)]
    split
    · by_cases e : j = w + 1
      · subst e
        rw [insO_hi _ _ _ (by omega), insO_hi _ _ _ (by omega), pk_us, pk_us]
      · exact ih _ _ (fun j2 h2 => by rw [pk_un (by omega), pk_un (by omega)]; exact h j2 (by omega)) j (by omega)
    · by_cases e : j = w + 1
      · subst e; rw [pk_us, pk_us]
      · rw [pk_un e, pk_un e]; exact h j (by omega)
theorem lsF_cg {v o o' : Nat → Int32} : ∀ k, (lsF v o k).2 = (lsF v o' k).2 ∧ ∀ j, j < (lsF v o k).2 → (lsF v o k).1 j = (lsF v o' k).1 j := by
  intro k
  induction k with
  | zero => exact ⟨rfl, fun j hj => absurd hj (Nat.not_lt_zero _)⟩
  | succ k ih =>
    rw [lsF, lsF]
    split
    · refine ⟨congrArg (· + 1) ih.1, fun j hj => ?_⟩
      dsimp only at hj ⊢
      rw [← ih.1]
      exact insO_cg _ _ _ ih.2 j hj
    · exact ih
set_option maxRecDepth 100000 in
set_option maxHeartbeats 4000000 in
theorem c_X5_list {E : jx_E} {l : Launch} {n : Nat} {kd : jx_K} {R : jx_R} {I : jx_I} {d : Nat} {P : Nat → Nat} {v : Nat → Int32} {k T S N : Nat} {x : Int32} (hs : sDk kd R d P) (hA : aSt I (stA d (P 4)) v k T) (hV : VI v k T S N) (hNb : N + 5000 < 2147483000) : jx_Ci E l yX5_list cX5_list 3 (some .int) 5 n kd R (I) [.ref d, .int x] (fun r I' => r = fList v (I (d + 6)) k x ∧ ∀ z, z ≠ d + 6 → I' z = I z) := by
  obtain ⟨K0, K6, K7, R0, R1, R2, R4, R5, Rp, hsc, hst, hP6, hinj⟩ := id hs
  have S4 := hs.st (show 4 < 6 from by omega)
  have S5 := hs.st (show 5 < 6 from by omega)
  have K4 := S4.1
  have K5 := S5.1
  obtain ⟨_, QK1, QR0, QR1, QR2, hF, hL, hP⟩ := id S4
  obtain ⟨FK0, FK1, FR0⟩ := id hF
  obtain ⟨LK0, LK1, LK2, LK3, LR0, LR1, LR2⟩ := id hL
  have h : aS I I (stA d (P 4)) v k T S N := ⟨hA, hV, fun _ _ => rfl⟩
  have h16 := hV.k16
  have hT1 := hV.tl
  have hS1 := hV.sl
  obtain ⟨rk, hrk⟩ := hV.r
  refine jx_C0.ofJ RX5 [some (.ref d), some (.int x), none] (by decide) rfl rfl (Nat.le_of_ble_eq_true rfl) rfl ?_
  refine j_iload_n (pc' := 1) dX5_list_0 rfl rfl ?_
  first | refine j_if_geN' (tgt := 8) (pc' := 4) (by with_reducible rfl) (by omega) dX5_list_1 rfl (by decide) (fun c1 => ?_) (fun c1 => ?_) | refine j_if_ge (tgt := 8) (pc' := 4) dX5_list_1 rfl (by decide) (fun c1 => ?_) (fun c1 => ?_)
  ·
    have c1p : (0 : Int32) ≤ x := c1
    obtain ⟨j, hj1, hjx⟩ := nI_of (Int32.not_lt.mpr c1p)
    have hj1 : j < 2147483648 := hj1
    subst hjx
    refine j_aload_n (pc' := 9) dX5_list_8 rfl rfl ?_
    refine j_getR (pc' := 12) f_X5_27 (by assumption) (by assumption) dX5_list_9 rfl ?_
    refine j_aload_n (pc' := 13) dX5_list_12 rfl rfl ?_
    refine j_getR (pc' := 16) f_X5_16 (by assumption) (by assumption) dX5_list_13 rfl ?_
    refine j_cVi (pc' := 19) m_X5_104 (c_X4_fillList S4 hA hV hrk K6 (by have := hs.lo (j := 4); omega)) (by assumption) (by decide) rfl rfl rfl ⟨Nat.le_of_ble_eq_true rfl, Nat.le_of_ble_eq_true rfl⟩ ⟨Nat.zero_le _, Nat.zero_le _⟩ (Nat.le_of_ble_eq_true rfl) dX5_list_16 rfl (fun x1 I1 hq => ?_)
    obtain ⟨rfl, rfl⟩ := hq
    have hls := (lsF_ok (v := v) (o := I (d + 6)) k).1
    refine j_istore_n (pc' := 20) (lv' := [_, _, _]) dX5_list_19 rfl (by decide) rfl ?_
    refine j_iload_n (pc' := 21) dX5_list_20 rfl rfl ?_
    refine j_iload_n (pc' := 22) dX5_list_21 rfl rfl ?_
    first | refine j_icmp_geN' (tgt := 34) (pc' := 25) (by with_reducible rfl) (by with_reducible rfl) (by omega) (by omega) dX5_list_22 rfl (by decide) (fun c22 => ?_) (fun c22 => ?_) | refine j_icmp_ge (tgt := 34) (pc' := 25) dX5_list_22 rfl (by decide) (fun c22 => ?_) (fun c22 => ?_)
    ·
      skip
      refine j_sipush (pc' := 37) (v := -20009) dX5_list_34 rfl rfl ?_
      refine j_reti dX5_list_37 rfl (by first | rfl | exact bi_n _) ?_
      rw [fList, if_pos c1p, if_neg (by rw [nI_ltI hj1 (by omega)]; omega)]
      exact ⟨rfl, fun z hz => va_up_ne _ _ hz⟩
    ·
      refine j_aload_n (pc' := 26) dX5_list_25 rfl rfl ?_
      refine j_getR (pc' := 29) f_X5_16 (by assumption) (by assumption) dX5_list_26 rfl ?_
      refine j_iload_n (pc' := 30) dX5_list_29 rfl rfl ?_
      refine j_ialdv (pc' := 31) (by assumption) rfl (by omega) (by omega) (by first | (simp (disch := omega) only [jx_upS, jx_upK, jx_upA, h.num, h.tim, h.mod, h.act, h.akt, h.aks, h.f1, h.f2, h.f3, h.f4, h.f5, h.lg.1, va_up_self]; rfl) | rfl) dX5_list_30 rfl ?_
      refine j_goto (tgt := 37) dX5_list_31 (by decide) ?_
      refine j_reti dX5_list_37 rfl (by first | rfl | exact bi_n _) ?_
      rw [fList, if_pos c1p, if_pos (by rw [nI_ltI hj1 (by omega)]; omega), nI_clamp hj1]
      exact ⟨rfl, fun z hz => va_up_ne _ _ hz⟩
  ·
    refine j_sipush (pc' := 7) (v := -20001) dX5_list_4 rfl rfl ?_
    refine j_reti dX5_list_7 rfl (by first | rfl | exact bi_n _) ?_
    rw [fList, if_neg c1]
    exact ⟨rfl, fun _ _ => rfl⟩

