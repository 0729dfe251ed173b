set_option maxRecDepth 100000 in
set_option maxHeartbeats 4000000 in
theorem lp_rounds {E : jx_E} {l : Launch} {d nn : Nat} (hL5 : scL E ≤ 2048) (hnn : nn ≤ 16) (hn0 : 0 < nn) : ∀ (z i n cells slots : Nat) (kd : jx_K) (R : jx_R) (I : jx_I) (T B : Nat) (y4 y5 y6 y7 y8 y9 y10 : Option Value), z + i = 26 → cells + z = 370 → slots + 5 * z = 6964 → d + 344 ≤ E.2.2.1 + n → T + 30 * z ≤ 9000 → B + 400000 * z + 6000000 < 2147483000 → LZ kd R I d nn T B → jx_J E l cL_law 11 ret RL false room_1 370 6964 jx_QL cells slots n kd R I 350 [some (.ref (scA E)), some (.ref d), some (.int (nI nn)), some (.int (nI i)), y4, y5, y6, y7, y8, y9, y10] [] := by
  intro z
  induction z with
  | zero =>
    intro i n cells slots kd R I T B y4 y5 y6 y7 y8 y9 y10 hz hc hs hda hT hB hZ
    have e1 : i = 26 := by omega
    have e2 : cells = 370 := by omega
    have e3 : slots = 6964 := by omega
    subst e1; subst e2; subst e3
    obtain ⟨v, p, q, S, N, hD, hV, hN, hP⟩ := hZ
    have Kd := hD.k5
    refine j_iload_n (pc' := 351) dL_law_350 rfl rfl ?_
    refine j_bipush (pc' := 353) (v := nI 26) dL_law_351 rfl rfl ?_
    refine j_icmpT_ge (tgt := 745) (by decide) dL_law_353 (by decide) ?_
    refine j_aload_n (pc' := 746) dL_law_745 rfl rfl ?_
    refine j_iload_n (pc' := 747) dL_law_746 rfl rfl ?_
    refine j_cSiR (pc' := 750) m_L_105 (c_L_fails hD hV hN (by omega) hn0) rfl rfl ⟨Nat.le_of_ble_eq_true rfl, Nat.le_of_ble_eq_true rfl⟩ ⟨Nat.le_of_ble_eq_true rfl, Nat.le_of_ble_eq_true rfl⟩ (Nat.le_of_ble_eq_true rfl) dL_law_747 rfl (fun x1 R1 I1 hq => ?_)
    obtain ⟨hx, hD⟩ := hq
    rw [hx]
    refine j_retiL dL_law_750 rfl (by first | rfl | exact bi_n _) ?_
    rfl
  | succ z ih =>
    intro i n cells slots kd R I T B y4 y5 y6 y7 y8 y9 y10 hz hc hs hda hT hB hZ
    refine law_round (Nat.le_trans (show cells + 1 ≤ 600000 from by omega) (Nat.le_of_ble_eq_true rfl)) (Nat.le_trans (show slots + 5 ≤ 7302250 from by omega) (Nat.le_of_ble_eq_true rfl)) hL5 hnn hn0 (by omega) hda (by omega) (by omega) (fun kd R I T1 B1 y4 y5 y6 y7 y8 y9 y10 h1 h2 hZ1 => ?_) hZ
    exact ih (i + 1) (n + 1) (cells + 1) (slots + 5) kd R I T1 B1 y4 y5 y6 y7 y8 y9 y10 (by omega) (by omega) (by omega) (by omega) (by omega) (by omega) hZ1
set_option maxRecDepth 100000 in
set_option maxHeartbeats 4000000 in
theorem law_mid {E : jx_E} {l : Launch} {n cells slots : Nat} {kd : jx_K} {R : jx_R} {I : jx_I} {d nn q B : Nat} {v p : Nat → Int32} {y4 y5 y6 y7 y8 y9 y10 : Option Value} (hL5 : scL E ≤ 2048) (hnn : nn ≤ 16) (hn0 : 0 < nn) (hc : cells = 344) (hs : slots = 6834) (hda : d + 344 ≤ E.2.2.1 + n) (hB : B + 40000000 < 2147483000) (hD : DK kd R I d v p q B) (hS : SI v nn) : jx_J E l cL_law 11 ret RL false room_1 370 6964 jx_QL cells slots n kd R I 289 [some (.ref (scA E)), some (.ref d), some (.int (nI nn)), some (.int (nI nn)), y4, y5, y6, y7, y8, y9, y10] [] := by
  have Kd := hD.k5
  obtain ⟨S, N, hV, hN, _⟩ := hD.to hS.1.1 hnn hS.1.2.1 (by omega)
  have hans : nI 10000 * v 5 + nI 100 * v 6 + v 7 = 100502 := by
    rw [hS.1.2.2.1, hS.1.2.2.2.1, hS.1.2.2.2.2, pk_mul, pk_mul, nI_add, nI_add]
    decide
  refine j_aload_n (pc' := 290) dL_law_289 rfl rfl ?_
  refine j_iload_n (pc' := 291) dL_law_290 rfl rfl ?_
  refine j_cSiR (pc' := 294) m_L_105 (c_L_fails hD hV hN (by omega) hn0) rfl rfl ⟨Nat.le_of_ble_eq_true rfl, Nat.le_of_ble_eq_true rfl⟩ ⟨Nat.le_trans (show cells ≤ 600000 from by omega) (Nat.le_of_ble_eq_true rfl), Nat.le_trans (show slots ≤ 7302250 from by omega) (Nat.le_of_ble_eq_true rfl)⟩ (Nat.le_of_ble_eq_true rfl) dL_law_291 rfl (fun x1 R1 I1 hq => ?_)
  obtain ⟨hx, hD⟩ := hq
  rw [hx]
  refine j_ifF_eq (pc' := 297) (tgt := 346) (by decide) dL_law_294 (by decide) rfl ?_
  refine j_aload_n (pc' := 298) dL_law_297 rfl rfl ?_
  refine j_iconst (pc' := 299) (v := nI 1) dL_law_298 rfl rfl ?_
  refine j_aload_n (pc' := 300) dL_law_299 rfl rfl ?_
  refine j_iconst (pc' := 301) (v := nI 0) dL_law_300 rfl rfl ?_
  refine j_cSi (pc' := 304) m_L_98 (c_L_cell (by omega) hL5) rfl rfl ⟨Nat.le_of_ble_eq_true rfl, Nat.le_of_ble_eq_true rfl⟩ ⟨Nat.le_trans (show cells ≤ 600000 from by omega) (Nat.le_of_ble_eq_true rfl), Nat.le_trans (show slots ≤ 7302250 from by omega) (Nat.le_of_ble_eq_true rfl)⟩ (Nat.le_of_ble_eq_true rfl) dL_law_301 rfl (fun xa J1 hq => ?_)
  rw [hq]
  refine j_iconst (pc' := 305) (v := nI 5) dL_law_304 rfl rfl ?_
  refine j_ishr (pc' := 306) dL_law_305 rfl ?_
  refine j_bipush (pc' := 308) (v := nI 20) dL_law_306 rfl rfl ?_
  refine j_cSi (pc' := 311) m_L_102 (c_L_up (by omega) (by omega)) rfl rfl ⟨Nat.le_of_ble_eq_true rfl, Nat.le_of_ble_eq_true rfl⟩ ⟨Nat.le_trans (show cells ≤ 600000 from by omega) (Nat.le_of_ble_eq_true rfl), Nat.le_trans (show slots ≤ 7302250 from by omega) (Nat.le_of_ble_eq_true rfl)⟩ (Nat.le_of_ble_eq_true rfl) dL_law_308 rfl (fun x1 J1 hq => ?_)
  obtain ⟨⟨j1, hj1, hx⟩, hJ⟩ := hq
  rw [hx, hJ]
  refine j_iaddN' (pc' := 312) (by with_reducible rfl) (by with_reducible rfl) dL_law_311 rfl ?_
  refine j_iconst (pc' := 313) (v := nI 1) dL_law_312 rfl rfl ?_
  refine j_aload_n (pc' := 314) dL_law_313 rfl rfl ?_
  refine j_iconst (pc' := 315) (v := nI 0) dL_law_314 rfl rfl ?_
  refine j_cSi (pc' := 318) m_L_98 (c_L_cell (by omega) hL5) rfl rfl ⟨Nat.le_of_ble_eq_true rfl, Nat.le_of_ble_eq_true rfl⟩ ⟨Nat.le_trans (show cells ≤ 600000 from by omega) (Nat.le_of_ble_eq_true rfl), Nat.le_trans (show slots ≤ 7302250 from by omega) (Nat.le_of_ble_eq_true rfl)⟩ (Nat.le_of_ble_eq_true rfl) dL_law_315 rfl (fun xb J1 hq => ?_)
  rw [hq]
  refine j_bipush (pc' := 320) (v := nI 10) dL_law_318 rfl rfl ?_
  refine j_ishr (pc' := 321) dL_law_320 rfl ?_
  refine j_iconst (pc' := 322) (v := nI 5) dL_law_321 rfl rfl ?_
  refine j_cSi (pc' := 325) m_L_102 (c_L_up (by omega) (by omega)) rfl rfl ⟨Nat.le_of_ble_eq_true rfl, Nat.le_of_ble_eq_true rfl⟩ ⟨Nat.le_trans (show cells ≤ 600000 from by omega) (Nat.le_of_ble_eq_true rfl), Nat.le_trans (show slots ≤ 7302250 from by omega) (Nat.le_of_ble_eq_true rfl)⟩ (Nat.le_of_ble_eq_true rfl) dL_law_322 rfl (fun x1 J1 hq => ?_)
  obtain ⟨⟨j2, hj2, hx⟩, hJ⟩ := hq
  rw [hx, hJ]
  refine j_iaddN' (pc' := 326) (by with_reducible rfl) (by with_reducible rfl) dL_law_325 rfl ?_
  refine j_aload_n (pc' := 327) dL_law_326 rfl rfl ?_
  refine j_iconst (pc' := 328) (v := nI 0) dL_law_327 rfl rfl ?_
  refine j_cSi (pc' := 331) m_L_98 (c_L_cell (by omega) hL5) rfl rfl ⟨Nat.le_of_ble_eq_true rfl, Nat.le_of_ble_eq_true rfl⟩ ⟨Nat.le_trans (show cells ≤ 600000 from by omega) (Nat.le_of_ble_eq_true rfl), Nat.le_trans (show slots ≤ 7302250 from by omega) (Nat.le_of_ble_eq_true rfl)⟩ (Nat.le_of_ble_eq_true rfl) dL_law_328 rfl (fun xc J1 hq => ?_)
  rw [hq]
  refine j_bipush (pc' := 333) (v := nI 14) dL_law_331 rfl rfl ?_
  refine j_ishr (pc' := 334) dL_law_333 rfl ?_
  refine j_iconst (pc' := 335) (v := nI 2) dL_law_334 rfl rfl ?_
  refine j_cSi (pc' := 338) m_L_102 (c_L_up (by omega) (by omega)) rfl rfl ⟨Nat.le_of_ble_eq_true rfl, Nat.le_of_ble_eq_true rfl⟩ ⟨Nat.le_trans (show cells ≤ 600000 from by omega) (Nat.le_of_ble_eq_true rfl), Nat.le_trans (show slots ≤ 7302250 from by omega) (Nat.le_of_ble_eq_true rfl)⟩ (Nat.le_of_ble_eq_true rfl) dL_law_335 rfl (fun x1 J1 hq => ?_)
  obtain ⟨⟨j3, hj3, hx⟩, hJ⟩ := hq
  rw [hx, hJ]
  have hok : okF (nI (1 + j1)) (nI (1 + j2)) (nI j3) = true := by
    unfold okF
    rw [in_ab (a := 1) (b := 60) (by omega) (by omega) (by omega), in_ab (a := 1) (b := 50) (by omega) (by omega) (by omega), in_ab (a := 0) (by omega) (by omega) (by omega)]
    rfl
  refine j_cViR (pc' := 341) m_L_38 (p_setFloods hD hV (by omega) (by omega) (a := 100502) (w := upd (upd (upd v 5 (nI (1 + j1))) 6 (nI (1 + j2))) 7 (nI j3)) ((if_pos hok).trans hans) (by decide) (if_pos hok)) Kd (by decide) rfl rfl rfl ⟨Nat.le_of_ble_eq_true rfl, Nat.le_of_ble_eq_true rfl⟩ ⟨Nat.le_trans (show cells ≤ 600000 from by omega) (Nat.le_of_ble_eq_true rfl), Nat.le_trans (show slots ≤ 7302250 from by omega) (Nat.le_of_ble_eq_true rfl)⟩ (Nat.le_of_ble_eq_true rfl) dL_law_338 rfl (fun x1 R1 I1 hq => ?_)
  obtain ⟨hx, hD⟩ := hq
  rw [hx]
  refine j_ldc (pc' := 343) k_456 dL_law_341 rfl ?_
  refine j_icmpT_eq (tgt := 348) (rfl) dL_law_343 (by decide) ?_
  refine j_iconst (pc' := 349) (v := nI 0) dL_law_348 rfl rfl ?_
  refine j_istore_n (pc' := 350) (lv' := [_, _, _, _, _, _, _, _, _, _, _]) dL_law_349 rfl (by decide) rfl ?_
  have hP1 : PI (upd (upd (upd v 5 (nI (1 + j1))) 6 (nI (1 + j2))) 7 (nI j3)) nn 0 := ((hS.2.1.lo (by omega) (by omega)).lo (by omega) (by omega)).lo (by omega) (by omega)
  obtain ⟨S1, N1, hV1, hN1, _⟩ := hD.to ((pk_un (by omega)).trans ((pk_un (by omega)).trans ((pk_un (by omega)).trans hS.1.1))) hnn ((pk_un (by omega)).trans ((pk_un (by omega)).trans ((pk_un (by omega)).trans hS.1.2.1))) (by omega)
  exact lp_rounds hL5 hnn hn0 26 0 n cells slots kd _ _ 0 _ _ _ _ _ _ _ _ (by omega) (by omega) (by omega) hda (by omega) (by omega) ⟨_, _, _, S1, N1, hD, hV1, hN1, hP1⟩
set_option maxRecDepth 100000 in
set_option maxHeartbeats 4000000 in
theorem j_law {E : jx_E} {l : Launch} (hL5 : scL E ≤ 2048) : jx_J E l cL_law 11 ret RL false room_1 370 6964 jx_QL 0 0 0 (fun _ => (11, 0)) (fun _ _ => none) (fun _ _ => 0) 0 [some (.ref (scA E)), none, none, none, none, none, none, none, none, none, none] [] := by
  refine j_newA (pc' := 3) (a := E.2.2.1) nw_L_10 (by omega) (Nat.le_of_ble_eq_true rfl) (Nat.le_of_ble_eq_true rfl) dL_law_0 rfl ?_
  refine j_dup (pc' := 4) dL_law_3 rfl rfl ?_
  refine j_callI (pc' := 7) m_L_87 (c_X5_init (a := E.2.2.1) (va_up_self _ _ _) (va_up_self _ _ _) (by omega)) rfl rfl ⟨Nat.le_of_ble_eq_true rfl, Nat.le_of_ble_eq_true rfl⟩ ⟨(Nat.le_of_ble_eq_true rfl), (Nat.le_of_ble_eq_true rfl)⟩ (Nat.le_of_ble_eq_true rfl) dL_law_4 rfl (fun v1 n1 kd1 R1 I1 hq hn1 => ?_)
  obtain ⟨rfl, f1, s1, g4, g5⟩ := hq
  refine j_astore_n (pc' := 8) (lv' := [_, _, _, _, _, _, _, _, _, _, _]) dL_law_7 rfl (by decide) rfl ?_
  obtain ⟨hDk, hM, hSc⟩ := s1.fin g4 g5 (fun _ => 0) 0
  have hD : DK kd1 R1 I1 E.2.2.1 v00 (fun _ => 0) 0 0 := ⟨_, _, _, hDk, hM, hSc⟩
  have Kd := hD.k5
  obtain ⟨hV, hN, _⟩ := hD.to9 (k := 0) (T := 0) (S := 10) (N := 0) rfl (by omega) rfl (by omega) rfl (by omega) rfl (by omega) (by omega)
  have hS0 : SI v00 0 := ⟨⟨rfl, rfl, rfl, rfl, rfl⟩, ⟨fun i hi => absurd hi (Nat.not_lt_zero _), rfl⟩, fun j hj => absurd hj (Nat.not_lt_zero _)⟩
  refine j_aload_n (pc' := 9) dL_law_8 rfl rfl ?_
  refine j_cViR (pc' := 12) m_L_84 (p_undo0 hD) Kd (by decide) rfl rfl rfl ⟨Nat.le_of_ble_eq_true rfl, Nat.le_of_ble_eq_true rfl⟩ ⟨Nat.le_of_ble_eq_true rfl, Nat.le_of_ble_eq_true rfl⟩ (Nat.le_of_ble_eq_true rfl) dL_law_9 rfl (fun x1 R1 I1 hq => ?_)
  obtain ⟨hx, hD⟩ := hq
  rw [hx]
  refine j_sipush (pc' := 15) (v := (-20009)) dL_law_12 rfl rfl ?_
  refine j_icmpF_ne (pc' := 18) (tgt := 77) (by decide) dL_law_15 (by decide) rfl ?_
  refine j_aload_n (pc' := 19) dL_law_18 rfl rfl ?_
  refine j_cVi (pc' := 22) m_L_88 (p_points hD hV (by omega) (by omega) (a := nI 0) (hV.z)) Kd (by decide) rfl rfl rfl ⟨Nat.le_of_ble_eq_true rfl, Nat.le_of_ble_eq_true rfl⟩ ⟨Nat.le_of_ble_eq_true rfl, Nat.le_of_ble_eq_true rfl⟩ (Nat.le_of_ble_eq_true rfl) dL_law_19 rfl (fun x1 J1 hq => ?_)
  obtain ⟨hx, hI⟩ := hq
  rw [hx, hI]
  refine j_ifF_ne (pc' := 25) (tgt := 77) (by decide) dL_law_22 (by decide) rfl ?_
  refine j_aload_n (pc' := 26) dL_law_25 rfl rfl ?_
  refine j_cVi (pc' := 29) m_L_65 (p_events hD hV (by omega) (by omega) (a := nI 0) (hV.n)) Kd (by decide) rfl rfl rfl ⟨Nat.le_of_ble_eq_true rfl, Nat.le_of_ble_eq_true rfl⟩ ⟨Nat.le_of_ble_eq_true rfl, Nat.le_of_ble_eq_true rfl⟩ (Nat.le_of_ble_eq_true rfl) dL_law_26 rfl (fun x1 J1 hq => ?_)
  obtain ⟨hx, hI⟩ := hq
  rw [hx, hI]
  refine j_ifF_ne (pc' := 32) (tgt := 77) (by decide) dL_law_29 (by decide) rfl ?_
  refine j_aload_n (pc' := 33) dL_law_32 rfl rfl ?_
  refine j_cVi (pc' := 36) m_L_91 (p_worst hD hV (by omega) (by omega) (a := (-20009)) (rfl)) Kd (by decide) rfl rfl rfl ⟨Nat.le_of_ble_eq_true rfl, Nat.le_of_ble_eq_true rfl⟩ ⟨Nat.le_of_ble_eq_true rfl, Nat.le_of_ble_eq_true rfl⟩ (Nat.le_of_ble_eq_true rfl) dL_law_33 rfl (fun x1 J1 hq => ?_)
  obtain ⟨hx, hI⟩ := hq
  rw [hx, hI]
  refine j_sipush (pc' := 39) (v := (-20009)) dL_law_36 rfl rfl ?_
  refine j_icmpF_ne (pc' := 42) (tgt := 77) (by decide) dL_law_39 (by decide) rfl ?_
  refine j_aload_n (pc' := 43) dL_law_42 rfl rfl ?_
  refine j_cV0 (pc' := 46) m_L_94 (p_meanAck hD hV (by omega) (by omega)) Kd (by decide) rfl rfl rfl ⟨Nat.le_of_ble_eq_true rfl, Nat.le_of_ble_eq_true rfl⟩ ⟨Nat.le_of_ble_eq_true rfl, Nat.le_of_ble_eq_true rfl⟩ (Nat.le_of_ble_eq_true rfl) dL_law_43 rfl (fun v1 J1 hq => ?_)
  obtain ⟨hx, hI⟩ := hq
  rw [hx, hI]
  rw [show fMean v00 = 0 from if_pos rfl]
  refine j_fconst0 (pc' := 47) dL_law_46 rfl ?_
  refine j_fcmp (pc' := 48) dL_law_47 rfl ?_
  refine j_ifF_ne (pc' := 51) (tgt := 77) (by decide +kernel) dL_law_48 (by decide) rfl ?_
  refine j_aload_n (pc' := 52) dL_law_51 rfl rfl ?_
  refine j_iconst (pc' := 53) (v := nI 0) dL_law_52 rfl rfl ?_
  refine j_cVi (pc' := 56) m_L_56 (p_list hD hV (by omega) (by omega) (a := (-20009)) (fLs_o (by omega) (Nat.le_refl 0))) Kd (by decide) rfl rfl rfl ⟨Nat.le_of_ble_eq_true rfl, Nat.le_of_ble_eq_true rfl⟩ ⟨Nat.le_of_ble_eq_true rfl, Nat.le_of_ble_eq_true rfl⟩ (Nat.le_of_ble_eq_true rfl) dL_law_53 rfl (fun x1 I1 hq => ?_)
  obtain ⟨hx, hD⟩ := hq
  rw [hx]
  refine j_sipush (pc' := 59) (v := (-20009)) dL_law_56 rfl rfl ?_
  refine j_icmpF_ne (pc' := 62) (tgt := 77) (by decide) dL_law_59 (by decide) rfl ?_
  refine j_aload_n (pc' := 63) dL_law_62 rfl rfl ?_
  refine j_cViR (pc' := 66) m_L_81 (p_ackAll hD hV (by omega) (by omega)) Kd (by decide) rfl rfl rfl ⟨Nat.le_of_ble_eq_true rfl, Nat.le_of_ble_eq_true rfl⟩ ⟨Nat.le_of_ble_eq_true rfl, Nat.le_of_ble_eq_true rfl⟩ (Nat.le_of_ble_eq_true rfl) dL_law_63 rfl (fun x1 R1 I1 hq => ?_)
  obtain ⟨hx, hD1⟩ := hq
  have hx0 : x1 = nI 0 := hx
  rw [hx0]
  replace hD : DK kd1 R1 I1 E.2.2.1 v00 (kpP (fun _ => 0) 0 v00) (kpC 0) (0 + 60000) := hD1
  refine j_ifF_ne (pc' := 69) (tgt := 77) (by decide) dL_law_66 (by decide) rfl ?_
  refine j_aload_n (pc' := 70) dL_law_69 rfl rfl ?_
  refine j_iconst (pc' := 71) (v := nI 3) dL_law_70 rfl rfl ?_
  refine j_cVi (pc' := 74) m_L_44 (p_plant hD hV (by omega) (by omega) (a := nI 0) (fPl_3.trans rfl)) Kd (by decide) rfl rfl rfl ⟨Nat.le_of_ble_eq_true rfl, Nat.le_of_ble_eq_true rfl⟩ ⟨Nat.le_of_ble_eq_true rfl, Nat.le_of_ble_eq_true rfl⟩ (Nat.le_of_ble_eq_true rfl) dL_law_71 rfl (fun x1 J1 hq => ?_)
  obtain ⟨hx, hI⟩ := hq
  rw [hx, hI]
  refine j_ifT_eq (tgt := 79) (by decide) dL_law_74 (by decide) ?_
  refine j_iconst (pc' := 80) (v := nI 2) dL_law_79 rfl rfl ?_
  refine j_aload_n (pc' := 81) dL_law_80 rfl rfl ?_
  refine j_iconst (pc' := 82) (v := nI 0) dL_law_81 rfl rfl ?_
  refine j_cSi (pc' := 85) m_L_98 (c_L_cell (by omega) hL5) rfl rfl ⟨Nat.le_of_ble_eq_true rfl, Nat.le_of_ble_eq_true rfl⟩ ⟨Nat.le_of_ble_eq_true rfl, Nat.le_of_ble_eq_true rfl⟩ (Nat.le_of_ble_eq_true rfl) dL_law_82 rfl (fun xa J1 hq => ?_)
  rw [hq]
  refine j_bipush (pc' := 87) (v := nI 9) dL_law_85 rfl rfl ?_
  refine j_cSi (pc' := 90) m_L_102 (c_L_up (by omega) (by omega)) rfl rfl ⟨Nat.le_of_ble_eq_true rfl, Nat.le_of_ble_eq_true rfl⟩ ⟨Nat.le_of_ble_eq_true rfl, Nat.le_of_ble_eq_true rfl⟩ (Nat.le_of_ble_eq_true rfl) dL_law_87 rfl (fun x1 J1 hq => ?_)
  obtain ⟨⟨j0, hj0, hx⟩, hJ⟩ := hq
  rw [hx, hJ]
  refine j_iaddN' (pc' := 91) (by with_reducible rfl) (by with_reducible rfl) dL_law_90 rfl ?_
  refine j_istore_n (pc' := 92) (lv' := [_, _, _, _, _, _, _, _, _, _, _]) dL_law_91 rfl (by decide) rfl ?_
  refine j_iconst (pc' := 93) (v := nI 0) dL_law_92 rfl rfl ?_
  refine j_istore_n (pc' := 94) (lv' := [_, _, _, _, _, _, _, _, _, _, _]) dL_law_93 rfl (by decide) rfl ?_
  exact lp_setup (n := n1) (Nat.le_of_ble_eq_true rfl) (Nat.le_of_ble_eq_true rfl) hL5 (show 2 + j0 ≤ 16 from by omega) (B := 60000) (by omega) (fun R I v p q B1 y4 y5 y6 y7 y8 y9 y10 hD hS hB1 => law_mid hL5 (by omega) (by omega) rfl rfl (by omega) (by omega) hD hS) (2 + j0) 0 R1 I1 v00 (kpP (fun _ => 0) 0 v00) (kpC 0) 60000 none none none none none none none (by omega) (Nat.zero_le _) hD hS0 (by omega)
