set_option maxRecDepth 100000 in
set_option maxHeartbeats 4000000 in
theorem c_L_ticks {E : jx_E} {l : Launch} {n : Nat} {kd : jx_K} {R : jx_R} {I : jx_I} {d : Nat} {v p : Nat → Int32} {q B k T S N : Nat} {m : Nat} (hD : DK kd R I d v p q B) (hV : VI v k T S N) (hN : N ≤ B) (hB : B + 4000000 < 2147483000) (hP : PI v k T) (h1 : 1 ≤ m) (h2 : m ≤ 30) (h3 : T + m ≤ 10000) : jx_CiR E l yL_ticks cL_ticks 9 (some .boolean) 7 n kd R I [.ref d, .int (nI k), .int (nI m)] (fun r R' I' => r = nI 1 ∧ LZ kd R' I' d k (T + m) (B + 200000)) := by
  have h16 := hV.k16
  have Kd := hD.k5
  have hq4 := hD.q4
  obtain ⟨A, hA, hA8⟩ := hP.A
  have hA1 : A ≤ 160000 := Nat.le_trans hA (Nat.le_trans (Nat.mul_le_mul h16 hV.tl) (by omega))
  obtain ⟨hP1, D, hD1, e8⟩ := PI.tks (S := S) hP (fun i hi => hV.don hi) (fun i hi => hV.dof hi) m (by omega)
  have hA2 : tkF v k T S m 8 = nI (A + D) := by rw [e8, hA8, nI_add]
  have hkm : k * m ≤ 480 := Nat.le_trans (Nat.mul_le_mul h16 h2) (by omega)
  refine jx_CtR.ofJ RL [some (.ref d), some (.int (nI k)), some (.int (nI m)), none, none, none, none, none, none] (by decide) rfl rfl (Nat.le_of_ble_eq_true rfl) rfl ?_
  refine j_aload_n (pc' := 1) dL_ticks_0 rfl rfl ?_
  refine j_iconst (pc' := 2) (v := nI 0) dL_ticks_1 rfl rfl ?_
  refine j_cVi (pc' := 5) m_L_44 (p_plant hD hV (by omega) (by omega) (a := nI T) (fPl_0.trans hV.t)) Kd (by decide) rfl rfl rfl ⟨Nat.le_of_ble_eq_true rfl, Nat.le_of_ble_eq_true rfl⟩ ⟨Nat.le_of_ble_eq_true rfl, Nat.le_of_ble_eq_true rfl⟩ (Nat.le_of_ble_eq_true rfl) dL_ticks_2 rfl (fun x1 J1 hq => ?_)
  obtain ⟨hx, hI⟩ := hq
  rw [hx, hI]
  refine j_istore_n (pc' := 6) (lv' := [_, _, _, _, _, _, _, _, _]) dL_ticks_5 rfl (by decide) rfl ?_
  refine j_aload_n (pc' := 7) dL_ticks_6 rfl rfl ?_
  refine j_cV0 (pc' := 10) m_L_9 (p_fingerprint hD hV (by omega) (by omega)) Kd (by decide) rfl rfl rfl ⟨Nat.le_of_ble_eq_true rfl, Nat.le_of_ble_eq_true rfl⟩ ⟨Nat.le_of_ble_eq_true rfl, Nat.le_of_ble_eq_true rfl⟩ (Nat.le_of_ble_eq_true rfl) dL_ticks_7 rfl (fun v1 J1 hq => ?_)
  obtain ⟨hx, hI⟩ := hq
  rw [hx, hI]
  refine j_lstore (pc' := 12) (lv' := [_, _, _, _, _, _, _, _, _]) dL_ticks_10 rfl (by decide) rfl ?_
  refine j_aload_n (pc' := 13) dL_ticks_12 rfl rfl ?_
  refine j_iconst (pc' := 14) (v := nI 4) dL_ticks_13 rfl rfl ?_
  refine j_cVi (pc' := 17) m_L_44 (p_plant hD hV (by omega) (by omega) (a := nI A) (fPl_4.trans hA8)) Kd (by decide) rfl rfl rfl ⟨Nat.le_of_ble_eq_true rfl, Nat.le_of_ble_eq_true rfl⟩ ⟨Nat.le_of_ble_eq_true rfl, Nat.le_of_ble_eq_true rfl⟩ (Nat.le_of_ble_eq_true rfl) dL_ticks_14 rfl (fun x1 J1 hq => ?_)
  obtain ⟨hx, hI⟩ := hq
  rw [hx, hI]
  refine j_istore (pc' := 19) (lv' := [_, _, _, _, _, _, _, _, _]) dL_ticks_17 rfl (by decide) rfl ?_
  refine j_aload_n (pc' := 20) dL_ticks_19 rfl rfl ?_
  refine j_iload_n (pc' := 21) dL_ticks_20 rfl rfl ?_
  refine j_cViR (pc' := 24) m_L_41 (p_ticks hD hV (by omega) (by omega) (a := nI (T + m)) (w := tkF v k T S m) (congrArg Prod.fst (fTks_s h1 (by omega) (by omega))) (ie_n (by omega)) (congrArg Prod.snd (fTks_s h1 (by omega) (by omega)))) Kd (by decide) rfl rfl rfl ⟨Nat.le_of_ble_eq_true rfl, Nat.le_of_ble_eq_true rfl⟩ ⟨Nat.le_of_ble_eq_true rfl, Nat.le_of_ble_eq_true rfl⟩ (Nat.le_of_ble_eq_true rfl) dL_ticks_21 rfl (fun x1 R1 I1 hq => ?_)
  obtain ⟨hx, hD⟩ := hq
  rw [hx]
  obtain ⟨S1, N1, hV1, hN1, _⟩ := hD.to ((tkF_lo (by omega) m).trans hV.z) h16 (tkF_1 hV.t m) (by omega)
  refine j_iload_n (pc' := 25) dL_ticks_24 rfl rfl ?_
  refine j_iload_n (pc' := 26) dL_ticks_25 rfl rfl ?_
  refine j_iaddN' (pc' := 27) (by with_reducible rfl) (by with_reducible rfl) dL_ticks_26 rfl ?_
  refine j_icmpF_ne (pc' := 30) (tgt := 54) (rfl) dL_ticks_27 (by decide) rfl ?_
  refine j_aload_n (pc' := 31) dL_ticks_30 rfl rfl ?_
  refine j_iconst (pc' := 32) (v := nI 4) dL_ticks_31 rfl rfl ?_
  refine j_cVi (pc' := 35) m_L_44 (p_plant hD hV1 (by omega) (by omega) (a := nI (A + D)) (fPl_4.trans hA2)) Kd (by decide) rfl rfl rfl ⟨Nat.le_of_ble_eq_true rfl, Nat.le_of_ble_eq_true rfl⟩ ⟨Nat.le_of_ble_eq_true rfl, Nat.le_of_ble_eq_true rfl⟩ (Nat.le_of_ble_eq_true rfl) dL_ticks_32 rfl (fun x1 J1 hq => ?_)
  obtain ⟨hx, hI⟩ := hq
  rw [hx, hI]
  refine j_iload (pc' := 37) dL_ticks_35 rfl rfl ?_
  refine j_icmpF_lt (pc' := 40) (tgt := 54) (nI_nlt (by omega) (by omega)) dL_ticks_37 (by decide) rfl ?_
  refine j_aload_n (pc' := 41) dL_ticks_40 rfl rfl ?_
  refine j_iconst (pc' := 42) (v := nI 4) dL_ticks_41 rfl rfl ?_
  refine j_cVi (pc' := 45) m_L_44 (p_plant hD hV1 (by omega) (by omega) (a := nI (A + D)) (fPl_4.trans hA2)) Kd (by decide) rfl rfl rfl ⟨Nat.le_of_ble_eq_true rfl, Nat.le_of_ble_eq_true rfl⟩ ⟨Nat.le_of_ble_eq_true rfl, Nat.le_of_ble_eq_true rfl⟩ (Nat.le_of_ble_eq_true rfl) dL_ticks_42 rfl (fun x1 J1 hq => ?_)
  obtain ⟨hx, hI⟩ := hq
  rw [hx, hI]
  refine j_iload (pc' := 47) dL_ticks_45 rfl rfl ?_
  refine j_iload_n (pc' := 48) dL_ticks_47 rfl rfl ?_
  refine j_iload_n (pc' := 49) dL_ticks_48 rfl rfl ?_
  refine j_imulN' (pc' := 50) (by with_reducible rfl) (by with_reducible rfl) dL_ticks_49 rfl ?_
  refine j_iaddN' (pc' := 51) (by with_reducible rfl) (by with_reducible rfl) dL_ticks_50 rfl ?_
  refine j_icmpT_le (tgt := 56) (nI_le (by omega) (by omega)) dL_ticks_51 (by decide) ?_
  refine j_aload_n (pc' := 57) dL_ticks_56 rfl rfl ?_
  refine j_cV0 (pc' := 60) m_L_9 (p_fingerprint hD hV1 (by omega) (by omega)) Kd (by decide) rfl rfl rfl ⟨Nat.le_of_ble_eq_true rfl, Nat.le_of_ble_eq_true rfl⟩ ⟨Nat.le_of_ble_eq_true rfl, Nat.le_of_ble_eq_true rfl⟩ (Nat.le_of_ble_eq_true rfl) dL_ticks_57 rfl (fun v1 J1 hq => ?_)
  obtain ⟨hx, hI⟩ := hq
  rw [hx, hI]
  refine j_lstore (pc' := 62) (lv' := [_, _, _, _, _, _, _, _, _]) dL_ticks_60 rfl (by decide) rfl ?_
  refine j_aload_n (pc' := 63) dL_ticks_62 rfl rfl ?_
  refine j_cViR (pc' := 66) m_L_84 (p_undo hD hq4) Kd (by decide) rfl rfl rfl ⟨Nat.le_of_ble_eq_true rfl, Nat.le_of_ble_eq_true rfl⟩ ⟨Nat.le_of_ble_eq_true rfl, Nat.le_of_ble_eq_true rfl⟩ (Nat.le_of_ble_eq_true rfl) dL_ticks_63 rfl (fun x1 R1 I1 hq => ?_)
  obtain ⟨⟨zu, hzu, hx⟩, p1, q1, hD⟩ := hq
  rw [hx]
  refine j_ifF_lt (pc' := 69) (tgt := 104) (nI_pos (by omega)) dL_ticks_66 (by decide) rfl ?_
  refine j_aload_n (pc' := 70) dL_ticks_69 rfl rfl ?_
  refine j_cV0 (pc' := 73) m_L_9 (p_fingerprint hD hV (by omega) (by omega)) Kd (by decide) rfl rfl rfl ⟨Nat.le_of_ble_eq_true rfl, Nat.le_of_ble_eq_true rfl⟩ ⟨Nat.le_of_ble_eq_true rfl, Nat.le_of_ble_eq_true rfl⟩ (Nat.le_of_ble_eq_true rfl) dL_ticks_70 rfl (fun v1 J1 hq => ?_)
  obtain ⟨hx, hI⟩ := hq
  rw [hx, hI]
  refine j_lload (pc' := 75) dL_ticks_73 rfl rfl ?_
  refine j_lcmp (pc' := 76) dL_ticks_75 rfl ?_
  rw [lg_self]
  refine j_ifF_ne (pc' := 79) (tgt := 104) (by decide) dL_ticks_76 (by decide) rfl ?_
  refine j_aload_n (pc' := 80) dL_ticks_79 rfl rfl ?_
  refine j_iload_n (pc' := 81) dL_ticks_80 rfl rfl ?_
  refine j_cViR (pc' := 84) m_L_41 (p_ticks hD hV (by omega) (by omega) (a := nI (T + m)) (w := tkF v k T S m) (congrArg Prod.fst (fTks_s h1 (by omega) (by omega))) (ie_n (by omega)) (congrArg Prod.snd (fTks_s h1 (by omega) (by omega)))) Kd (by decide) rfl rfl rfl ⟨Nat.le_of_ble_eq_true rfl, Nat.le_of_ble_eq_true rfl⟩ ⟨Nat.le_of_ble_eq_true rfl, Nat.le_of_ble_eq_true rfl⟩ (Nat.le_of_ble_eq_true rfl) dL_ticks_81 rfl (fun x1 R1 I1 hq => ?_)
  obtain ⟨hx, hD⟩ := hq
  rw [hx]
  refine j_iload_n (pc' := 85) dL_ticks_84 rfl rfl ?_
  refine j_iload_n (pc' := 86) dL_ticks_85 rfl rfl ?_
  refine j_iaddN' (pc' := 87) (by with_reducible rfl) (by with_reducible rfl) dL_ticks_86 rfl ?_
  refine j_icmpF_ne (pc' := 90) (tgt := 104) (rfl) dL_ticks_87 (by decide) rfl ?_
  refine j_aload_n (pc' := 91) dL_ticks_90 rfl rfl ?_
  refine j_cV0 (pc' := 94) m_L_9 (p_fingerprint hD hV1 (by omega) (by omega)) Kd (by decide) rfl rfl rfl ⟨Nat.le_of_ble_eq_true rfl, Nat.le_of_ble_eq_true rfl⟩ ⟨Nat.le_of_ble_eq_true rfl, Nat.le_of_ble_eq_true rfl⟩ (Nat.le_of_ble_eq_true rfl) dL_ticks_91 rfl (fun v1 J1 hq => ?_)
  obtain ⟨hx, hI⟩ := hq
  rw [hx, hI]
  refine j_lload (pc' := 96) dL_ticks_94 rfl rfl ?_
  refine j_lcmp (pc' := 97) dL_ticks_96 rfl ?_
  rw [lg_self]
  refine j_ifF_ne (pc' := 100) (tgt := 104) (by decide) dL_ticks_97 (by decide) rfl ?_
  refine j_iconst (pc' := 101) (v := nI 1) dL_ticks_100 rfl rfl ?_
  refine j_goto (tgt := 105) dL_ticks_101 (by decide) ?_
  refine j_retiR dL_ticks_105 rfl (by first | rfl | exact bi_n _) ?_
  exact ⟨rfl, _, _, _, S1, N1, hD.mono (by omega), hV1, by omega, hP1⟩
