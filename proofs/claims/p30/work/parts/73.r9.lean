set_option maxRecDepth 100000 in
set_option maxHeartbeats 4000000 in
theorem ag_end {E : jx_E} {l : Launch} {n : Nat} {kd : jx_K} {R : jx_R} {d : Nat} {v p : Nat → Int32} {q B k T S N : Nat} {a : Nat} {I : jx_I} {y9 y10 y11 y12 : Option Value} (hV : VI v k T S N) (hN : N ≤ B) (hB : B + 100000 < 2147483000) (hP : PI v k T) (hka : kd a = (7, 5)) (hD : DK kd R I d v p q B) (hA : ∀ w, w < 5 → I a w = cntF v (w + 1) k) : jx_J E l cL_agrees 13 (some .boolean) RL false rmA 1 5 (fun v' n' kd' R' I' => v' = some (.int (nI 1)) ∧ LZ kd' R' I' d k T B) 1 5 n kd R I 25 [some (.ref d), some (.int (nI k)), some (.ref a), some (.int (cntF v 0 k)), some (.int (cntF v 6 k)), some (.int (cntF v 7 k)), some (.int (sm v k)), some (.int (nI T)), some (.int (nI k)), y9, y10, y11, y12] [] := by
  have h16 := hV.k16
  have Kd := hD.k5
  obtain ⟨_, _, _, _, g4⟩ := lsF_good (o0 := fun _ => 0) hV k (Nat.le_refl _)
  refine j_iload (pc' := 27) dL_agrees_25 rfl rfl ?_
  refine j_iload_n (pc' := 28) dL_agrees_27 rfl rfl ?_
  refine j_icmpT_ge (tgt := 462) (nI_le (Nat.le_refl _) (by omega)) dL_agrees_28 (by decide) ?_
  refine j_iconst (pc' := 463) (v := nI 0) dL_agrees_462 rfl rfl ?_
  refine j_istore (pc' := 465) (lv' := [_, _, _, _, _, _, _, _, _, _, _, _, _]) dL_agrees_463 rfl (by decide) rfl ?_
  refine j_iload (pc' := 467) dL_agrees_465 rfl rfl ?_
  refine j_iconst (pc' := 468) (v := nI 5) dL_agrees_467 rfl rfl ?_
  refine j_icmpF_ge (pc' := 471) (tgt := 494) (by decide) dL_agrees_468 (by decide) rfl ?_
  refine j_aload_n (pc' := 472) dL_agrees_471 rfl rfl ?_
  refine j_iconst (pc' := 473) (v := nI 1) dL_agrees_472 rfl rfl ?_
  refine j_iload (pc' := 475) dL_agrees_473 rfl rfl ?_
  refine j_iaddN' (pc' := 476) (by with_reducible rfl) (by with_reducible rfl) dL_agrees_475 rfl ?_
  refine j_cVi (pc' := 479) m_L_59 (p_count hD hV (by omega) (by omega) (a := cntF v 1 k) (fCt_w (by omega))) Kd (by decide) rfl rfl rfl ⟨Nat.le_of_ble_eq_true rfl, Nat.le_of_ble_eq_true rfl⟩ ⟨Nat.le_of_ble_eq_true rfl, Nat.le_of_ble_eq_true rfl⟩ (Nat.le_of_ble_eq_true rfl) dL_agrees_476 rfl (fun x1 J1 hq => ?_)
  obtain ⟨hx, hI⟩ := hq
  rw [hx, hI]
  refine j_aload_n (pc' := 480) dL_agrees_479 rfl rfl ?_
  refine j_iload (pc' := 482) dL_agrees_480 rfl rfl ?_
  refine j_ialdv (pc' := 483) hka rfl (by decide) (by decide) (hA _ (by decide)) dL_agrees_482 rfl ?_
  refine j_icmpT_eq (tgt := 488) (rfl) dL_agrees_483 (by decide) ?_
  refine j_iincN (pc' := 491) (lv' := [_, _, _, _, _, _, _, _, _, _, _, _, _]) dL_agrees_488 rfl rfl (by decide) rfl ?_
  refine j_goto (tgt := 465) dL_agrees_491 (by decide) ?_
  refine j_iload (pc' := 467) dL_agrees_465 rfl rfl ?_
  refine j_iconst (pc' := 468) (v := nI 5) dL_agrees_467 rfl rfl ?_
  refine j_icmpF_ge (pc' := 471) (tgt := 494) (by decide) dL_agrees_468 (by decide) rfl ?_
  refine j_aload_n (pc' := 472) dL_agrees_471 rfl rfl ?_
  refine j_iconst (pc' := 473) (v := nI 1) dL_agrees_472 rfl rfl ?_
  refine j_iload (pc' := 475) dL_agrees_473 rfl rfl ?_
  refine j_iaddN' (pc' := 476) (by with_reducible rfl) (by with_reducible rfl) dL_agrees_475 rfl ?_
  refine j_cVi (pc' := 479) m_L_59 (p_count hD hV (by omega) (by omega) (a := cntF v 2 k) (fCt_w (by omega))) Kd (by decide) rfl rfl rfl ⟨Nat.le_of_ble_eq_true rfl, Nat.le_of_ble_eq_true rfl⟩ ⟨Nat.le_of_ble_eq_true rfl, Nat.le_of_ble_eq_true rfl⟩ (Nat.le_of_ble_eq_true rfl) dL_agrees_476 rfl (fun x1 J1 hq => ?_)
  obtain ⟨hx, hI⟩ := hq
  rw [hx, hI]
  refine j_aload_n (pc' := 480) dL_agrees_479 rfl rfl ?_
  refine j_iload (pc' := 482) dL_agrees_480 rfl rfl ?_
  refine j_ialdv (pc' := 483) hka rfl (by decide) (by decide) (hA _ (by decide)) dL_agrees_482 rfl ?_
  refine j_icmpT_eq (tgt := 488) (rfl) dL_agrees_483 (by decide) ?_
  refine j_iincN (pc' := 491) (lv' := [_, _, _, _, _, _, _, _, _, _, _, _, _]) dL_agrees_488 rfl rfl (by decide) rfl ?_
  refine j_goto (tgt := 465) dL_agrees_491 (by decide) ?_
  refine j_iload (pc' := 467) dL_agrees_465 rfl rfl ?_
  refine j_iconst (pc' := 468) (v := nI 5) dL_agrees_467 rfl rfl ?_
  refine j_icmpF_ge (pc' := 471) (tgt := 494) (by decide) dL_agrees_468 (by decide) rfl ?_
  refine j_aload_n (pc' := 472) dL_agrees_471 rfl rfl ?_
  refine j_iconst (pc' := 473) (v := nI 1) dL_agrees_472 rfl rfl ?_
  refine j_iload (pc' := 475) dL_agrees_473 rfl rfl ?_
  refine j_iaddN' (pc' := 476) (by with_reducible rfl) (by with_reducible rfl) dL_agrees_475 rfl ?_
  refine j_cVi (pc' := 479) m_L_59 (p_count hD hV (by omega) (by omega) (a := cntF v 3 k) (fCt_w (by omega))) Kd (by decide) rfl rfl rfl ⟨Nat.le_of_ble_eq_true rfl, Nat.le_of_ble_eq_true rfl⟩ ⟨Nat.le_of_ble_eq_true rfl, Nat.le_of_ble_eq_true rfl⟩ (Nat.le_of_ble_eq_true rfl) dL_agrees_476 rfl (fun x1 J1 hq => ?_)
  obtain ⟨hx, hI⟩ := hq
  rw [hx, hI]
  refine j_aload_n (pc' := 480) dL_agrees_479 rfl rfl ?_
  refine j_iload (pc' := 482) dL_agrees_480 rfl rfl ?_
  refine j_ialdv (pc' := 483) hka rfl (by decide) (by decide) (hA _ (by decide)) dL_agrees_482 rfl ?_
  refine j_icmpT_eq (tgt := 488) (rfl) dL_agrees_483 (by decide) ?_
  refine j_iincN (pc' := 491) (lv' := [_, _, _, _, _, _, _, _, _, _, _, _, _]) dL_agrees_488 rfl rfl (by decide) rfl ?_
  refine j_goto (tgt := 465) dL_agrees_491 (by decide) ?_
  refine j_iload (pc' := 467) dL_agrees_465 rfl rfl ?_
  refine j_iconst (pc' := 468) (v := nI 5) dL_agrees_467 rfl rfl ?_
  refine j_icmpF_ge (pc' := 471) (tgt := 494) (by decide) dL_agrees_468 (by decide) rfl ?_
  refine j_aload_n (pc' := 472) dL_agrees_471 rfl rfl ?_
  refine j_iconst (pc' := 473) (v := nI 1) dL_agrees_472 rfl rfl ?_
  refine j_iload (pc' := 475) dL_agrees_473 rfl rfl ?_
  refine j_iaddN' (pc' := 476) (by with_reducible rfl) (by with_reducible rfl) dL_agrees_475 rfl ?_
  refine j_cVi (pc' := 479) m_L_59 (p_count hD hV (by omega) (by omega) (a := cntF v 4 k) (fCt_w (by omega))) Kd (by decide) rfl rfl rfl ⟨Nat.le_of_ble_eq_true rfl, Nat.le_of_ble_eq_true rfl⟩ ⟨Nat.le_of_ble_eq_true rfl, Nat.le_of_ble_eq_true rfl⟩ (Nat.le_of_ble_eq_true rfl) dL_agrees_476 rfl (fun x1 J1 hq => ?_)
  obtain ⟨hx, hI⟩ := hq
  rw [hx, hI]
  refine j_aload_n (pc' := 480) dL_agrees_479 rfl rfl ?_
  refine j_iload (pc' := 482) dL_agrees_480 rfl rfl ?_
  refine j_ialdv (pc' := 483) hka rfl (by decide) (by decide) (hA _ (by decide)) dL_agrees_482 rfl ?_
  refine j_icmpT_eq (tgt := 488) (rfl) dL_agrees_483 (by decide) ?_
  refine j_iincN (pc' := 491) (lv' := [_, _, _, _, _, _, _, _, _, _, _, _, _]) dL_agrees_488 rfl rfl (by decide) rfl ?_
  refine j_goto (tgt := 465) dL_agrees_491 (by decide) ?_
  refine j_iload (pc' := 467) dL_agrees_465 rfl rfl ?_
  refine j_iconst (pc' := 468) (v := nI 5) dL_agrees_467 rfl rfl ?_
  refine j_icmpF_ge (pc' := 471) (tgt := 494) (by decide) dL_agrees_468 (by decide) rfl ?_
  refine j_aload_n (pc' := 472) dL_agrees_471 rfl rfl ?_
  refine j_iconst (pc' := 473) (v := nI 1) dL_agrees_472 rfl rfl ?_
  refine j_iload (pc' := 475) dL_agrees_473 rfl rfl ?_
  refine j_iaddN' (pc' := 476) (by with_reducible rfl) (by with_reducible rfl) dL_agrees_475 rfl ?_
  refine j_cVi (pc' := 479) m_L_59 (p_count hD hV (by omega) (by omega) (a := cntF v 5 k) (fCt_w (by omega))) Kd (by decide) rfl rfl rfl ⟨Nat.le_of_ble_eq_true rfl, Nat.le_of_ble_eq_true rfl⟩ ⟨Nat.le_of_ble_eq_true rfl, Nat.le_of_ble_eq_true rfl⟩ (Nat.le_of_ble_eq_true rfl) dL_agrees_476 rfl (fun x1 J1 hq => ?_)
  obtain ⟨hx, hI⟩ := hq
  rw [hx, hI]
  refine j_aload_n (pc' := 480) dL_agrees_479 rfl rfl ?_
  refine j_iload (pc' := 482) dL_agrees_480 rfl rfl ?_
  refine j_ialdv (pc' := 483) hka rfl (by decide) (by decide) (hA _ (by decide)) dL_agrees_482 rfl ?_
  refine j_icmpT_eq (tgt := 488) (rfl) dL_agrees_483 (by decide) ?_
  refine j_iincN (pc' := 491) (lv' := [_, _, _, _, _, _, _, _, _, _, _, _, _]) dL_agrees_488 rfl rfl (by decide) rfl ?_
  refine j_goto (tgt := 465) dL_agrees_491 (by decide) ?_
  refine j_iload (pc' := 467) dL_agrees_465 rfl rfl ?_
  refine j_iconst (pc' := 468) (v := nI 5) dL_agrees_467 rfl rfl ?_
  refine j_icmpT_ge (tgt := 494) (by decide) dL_agrees_468 (by decide) ?_
  refine j_aload_n (pc' := 495) dL_agrees_494 rfl rfl ?_
  refine j_iconst (pc' := 496) (v := nI 0) dL_agrees_495 rfl rfl ?_
  refine j_cVi (pc' := 499) m_L_59 (p_count hD hV (by omega) (by omega) (a := cntF v 0 k) (fCt_w (by omega))) Kd (by decide) rfl rfl rfl ⟨Nat.le_of_ble_eq_true rfl, Nat.le_of_ble_eq_true rfl⟩ ⟨Nat.le_of_ble_eq_true rfl, Nat.le_of_ble_eq_true rfl⟩ (Nat.le_of_ble_eq_true rfl) dL_agrees_496 rfl (fun x1 J1 hq => ?_)
  obtain ⟨hx, hI⟩ := hq
  rw [hx, hI]
  refine j_iload_n (pc' := 500) dL_agrees_499 rfl rfl ?_
  refine j_icmpF_ne (pc' := 503) (tgt := 549) (rfl) dL_agrees_500 (by decide) rfl ?_
  refine j_aload_n (pc' := 504) dL_agrees_503 rfl rfl ?_
  refine j_bipush (pc' := 506) (v := nI 6) dL_agrees_504 rfl rfl ?_
  refine j_cVi (pc' := 509) m_L_59 (p_count hD hV (by omega) (by omega) (a := cntF v 6 k) (fCt_w (by omega))) Kd (by decide) rfl rfl rfl ⟨Nat.le_of_ble_eq_true rfl, Nat.le_of_ble_eq_true rfl⟩ ⟨Nat.le_of_ble_eq_true rfl, Nat.le_of_ble_eq_true rfl⟩ (Nat.le_of_ble_eq_true rfl) dL_agrees_506 rfl (fun x1 J1 hq => ?_)
  obtain ⟨hx, hI⟩ := hq
  rw [hx, hI]
  refine j_iload (pc' := 511) dL_agrees_509 rfl rfl ?_
  refine j_icmpF_ne (pc' := 514) (tgt := 549) (rfl) dL_agrees_511 (by decide) rfl ?_
  refine j_aload_n (pc' := 515) dL_agrees_514 rfl rfl ?_
  refine j_bipush (pc' := 517) (v := nI 7) dL_agrees_515 rfl rfl ?_
  refine j_cVi (pc' := 520) m_L_59 (p_count hD hV (by omega) (by omega) (a := cntF v 7 k) (fCt_w (by omega))) Kd (by decide) rfl rfl rfl ⟨Nat.le_of_ble_eq_true rfl, Nat.le_of_ble_eq_true rfl⟩ ⟨Nat.le_of_ble_eq_true rfl, Nat.le_of_ble_eq_true rfl⟩ (Nat.le_of_ble_eq_true rfl) dL_agrees_517 rfl (fun x1 J1 hq => ?_)
  obtain ⟨hx, hI⟩ := hq
  rw [hx, hI]
  refine j_iload (pc' := 522) dL_agrees_520 rfl rfl ?_
  refine j_icmpF_ne (pc' := 525) (tgt := 549) (rfl) dL_agrees_522 (by decide) rfl ?_
  refine j_aload_n (pc' := 526) dL_agrees_525 rfl rfl ?_
  refine j_iconst (pc' := 527) (v := nI 4) dL_agrees_526 rfl rfl ?_
  refine j_cVi (pc' := 530) m_L_44 (p_plant hD hV (by omega) (by omega) (a := sm v k) (fPl_4.trans hP.2)) Kd (by decide) rfl rfl rfl ⟨Nat.le_of_ble_eq_true rfl, Nat.le_of_ble_eq_true rfl⟩ ⟨Nat.le_of_ble_eq_true rfl, Nat.le_of_ble_eq_true rfl⟩ (Nat.le_of_ble_eq_true rfl) dL_agrees_527 rfl (fun x1 J1 hq => ?_)
  obtain ⟨hx, hI⟩ := hq
  rw [hx, hI]
  refine j_iload (pc' := 532) dL_agrees_530 rfl rfl ?_
  refine j_icmpF_ne (pc' := 535) (tgt := 549) (rfl) dL_agrees_532 (by decide) rfl ?_
  refine j_aload_n (pc' := 536) dL_agrees_535 rfl rfl ?_
  refine j_aload_n (pc' := 537) dL_agrees_536 rfl rfl ?_
  refine j_iconst (pc' := 538) (v := nI 0) dL_agrees_537 rfl rfl ?_
  refine j_ialdv (pc' := 539) hka rfl (by decide) (by decide) ((hA 0 (by decide)).trans g4) dL_agrees_538 rfl ?_
  refine j_cSi (pc' := 542) m_L_78 (c_L_list hD hV hN hB) rfl rfl ⟨Nat.le_of_ble_eq_true rfl, Nat.le_of_ble_eq_true rfl⟩ ⟨Nat.le_of_ble_eq_true rfl, Nat.le_of_ble_eq_true rfl⟩ (Nat.le_of_ble_eq_true rfl) dL_agrees_539 rfl (fun x1 I1 hq => ?_)
  obtain ⟨hx, hD⟩ := hq
  rw [hx]
  refine j_ifF_eq (pc' := 545) (tgt := 549) (by decide) dL_agrees_542 (by decide) rfl ?_
  refine j_iconst (pc' := 546) (v := nI 1) dL_agrees_545 rfl rfl ?_
  refine j_goto (tgt := 550) dL_agrees_546 (by decide) ?_
  refine j_ireturn dL_agrees_550 rfl (by first | rfl | exact bi_n _) ?_
  exact ⟨rfl, v, p, q, S, N, hD, hV, hN, hP⟩
set_option maxRecDepth 100000 in
set_option maxHeartbeats 4000000 in
theorem lp_agrees {E : jx_E} {l : Launch} {n : Nat} {kd : jx_K} {R : jx_R} {d : Nat} {v p : Nat → Int32} {q B k T S N : Nat} {a : Nat} (hV : VI v k T S N) (hN : N ≤ B) (hB : B + 100000 < 2147483000) (hP : PI v k T) (hka : kd a = (7, 5)) (hda : d + 344 ≤ a) : ∀ (z i : Nat) (I : jx_I) (y9 y10 y11 y12 : Option Value), k ≤ i + z → i ≤ k → DK kd R I d v p q B → (∀ w, w < 5 → I a w = cntF v (w + 1) i) → jx_J E l cL_agrees 13 (some .boolean) RL false rmA 1 5 (fun v' n' kd' R' I' => v' = some (.int (nI 1)) ∧ LZ kd' R' I' d k T B) 1 5 n kd R I 25 [some (.ref d), some (.int (nI k)), some (.ref a), some (.int (cntF v 0 i)), some (.int (cntF v 6 i)), some (.int (cntF v 7 i)), some (.int (sm v i)), some (.int (nI T)), some (.int (nI i)), y9, y10, y11, y12] [] := by
  intro z
  induction z with
  | zero =>
    intro i I y9 y10 y11 y12 hz hi hD hA
    have e : i = k := by omega
    subst e
    exact ag_end hV hN hB hP hka hD hA
  | succ z ih =>
    intro i I y9 y10 y11 y12 hz hik hD hA
    by_cases hc : k ≤ i + z
    · exact ih i I y9 y10 y11 y12 hc hik hD hA
    · have hi : i < k := by omega
      have ih2 : ∀ (j : Nat) (I : jx_I) (y9 y10 y11 y12 : Option Value), i < j → j ≤ k → DK kd R I d v p q B → (∀ w, w < 5 → I a w = cntF v (w + 1) j) → jx_J E l cL_agrees 13 (some .boolean) RL false rmA 1 5 (fun v' n' kd' R' I' => v' = some (.int (nI 1)) ∧ LZ kd' R' I' d k T B) 1 5 n kd R I 25 [some (.ref d), some (.int (nI k)), some (.ref a), some (.int (cntF v 0 j)), some (.int (cntF v 6 j)), some (.int (cntF v 7 j)), some (.int (sm v j)), some (.int (nI T)), some (.int (nI j)), y9, y10, y11, y12] [] := fun j I y9 y10 y11 y12 h1 h2 h3 h4 => ih j I y9 y10 y11 y12 (by omega) h2 h3 h4
      obtain ⟨ba, hba⟩ := hV.al hi
      obtain ⟨bb, hbb⟩ := hV.ak hi
      cases ba with
      | true =>
        have h9 : v (176 + 56 * i + 9) = nI 1 := hba
        cases bb with
        | true =>
          have h10 : v (176 + 56 * i + 10) = nI 1 := hbb
          have hst : sStand v i = true := by unfold sStand; rw [h9, h10]; decide
          rcases why_n hst with hw | hw | hw | hw | hw
          · exact ag_11_00 hV hN hB hP hi hka hda ih2 hD hA h9 h10 hst hw (hw.2.2.1 (by omega))
          · exact ag_11_11 hV hN hB hP hi hka hda ih2 hD hA h9 h10 hst hw (hw.2.1 rfl)
          · exact ag_11_20 hV hN hB hP hi hka hda ih2 hD hA h9 h10 hst hw (hw.2.2.1 (by omega))
          · exact ag_11_30 hV hN hB hP hi hka hda ih2 hD hA h9 h10 hst hw (hw.2.2.1 (by omega))
          · exact ag_11_40 hV hN hB hP hi hka hda ih2 hD hA h9 h10 hst hw (hw.2.2.1 (by omega))
        | false =>
          have h10 : v (176 + 56 * i + 10) = nI 0 := hbb
          have hst : sStand v i = true := by unfold sStand; rw [h9, h10]; decide
          rcases why_n hst with hw | hw | hw | hw | hw
          · exact ag_10_00 hV hN hB hP hi hka hda ih2 hD hA h9 h10 hst hw (hw.2.2.1 (by omega))
          · exact ag_10_11 hV hN hB hP hi hka hda ih2 hD hA h9 h10 hst hw (hw.2.1 rfl)
          · exact ag_10_20 hV hN hB hP hi hka hda ih2 hD hA h9 h10 hst hw (hw.2.2.1 (by omega))
          · exact ag_10_30 hV hN hB hP hi hka hda ih2 hD hA h9 h10 hst hw (hw.2.2.1 (by omega))
          · exact ag_10_40 hV hN hB hP hi hka hda ih2 hD hA h9 h10 hst hw (hw.2.2.1 (by omega))
      | false =>
        have h9 : v (176 + 56 * i + 9) = nI 0 := hba
        cases bb with
        | false =>
          have h10 : v (176 + 56 * i + 10) = nI 0 := hbb
          have hst : sStand v i = true := by unfold sStand; rw [h9, h10]; decide
          rcases why_n hst with hw | hw | hw | hw | hw
          · exact ag_00_00 hV hN hB hP hi hka hda ih2 hD hA h9 h10 hst hw (hw.2.2.1 (by omega))
          · exact ag_00_11 hV hN hB hP hi hka hda ih2 hD hA h9 h10 hst hw (hw.2.1 rfl)
          · exact ag_00_20 hV hN hB hP hi hka hda ih2 hD hA h9 h10 hst hw (hw.2.2.1 (by omega))
          · exact ag_00_30 hV hN hB hP hi hka hda ih2 hD hA h9 h10 hst hw (hw.2.2.1 (by omega))
          · exact ag_00_40 hV hN hB hP hi hka hda ih2 hD hA h9 h10 hst hw (hw.2.2.1 (by omega))
        | true =>
          have h10 : v (176 + 56 * i + 10) = nI 1 := hbb
          obtain ⟨hst, hw⟩ := why_0 h9 h10
          by_cases hsh : v (176 + 56 * i + 13) ≤ 0
          · exact ag_01_n0 hV hN hB hP hi hka hda ih2 hD hA h9 h10 hst hw hsh
          · exact ag_01_n1 hV hN hB hP hi hka hda ih2 hD hA h9 h10 hst hw hsh
set_option maxRecDepth 100000 in
set_option maxHeartbeats 4000000 in
theorem c_L_agrees {E : jx_E} {l : Launch} {n : Nat} {kd : jx_K} {R : jx_R} {I : jx_I} {d : Nat} {v p : Nat → Int32} {q B k T S N : Nat} {a : Nat} (hD : DK kd R I d v p q B) (hV : VI v k T S N) (hN : N ≤ B) (hB : B + 100000 < 2147483000) (hP : PI v k T) (ha : E.2.2.1 + n = a) (hda : d + 344 ≤ a) : jx_Ct E l yL_agrees cL_agrees 13 (some .boolean) 7 1 5 n kd R I [.ref d, .int (nI k)] (fun v' n' kd' R' I' => v' = some (.int (nI 1)) ∧ LZ kd' R' I' d k T B) := by
  refine jx_CtA.ofJ RL [some (.ref d), some (.int (nI k)), none, none, none, none, none, none, none, none, none, none, none] (by decide) rfl rfl (Nat.le_of_ble_eq_true rfl) rfl ?_
  refine j_iconst (pc' := 1) (v := nI 5) dL_agrees_0 rfl rfl ?_
  refine j_newaIA (pc' := 3) (a := a) ha rfl (by decide) (Nat.le_of_ble_eq_true rfl) (Nat.le_of_ble_eq_true rfl) k_28 dL_agrees_1 rfl ?_
  replace hD : DK (va_up kd a (7, 5)) (va_up R a (fun _ => none)) (va_up I a (fun _ => 0)) d v p q B := hD.grow (fun z hz => va_up_ne _ _ (by omega)) (fun z hz => va_up_ne _ _ (by omega)) (fun z hz => va_up_ne _ _ (by omega))
  have Kd := hD.k5
  refine j_astore_n (pc' := 4) (lv' := [_, _, _, _, _, _, _, _, _, _, _, _, _]) dL_agrees_3 rfl (by decide) rfl ?_
  refine j_iconst (pc' := 5) (v := nI 0) dL_agrees_4 rfl rfl ?_
  refine j_istore_n (pc' := 6) (lv' := [_, _, _, _, _, _, _, _, _, _, _, _, _]) dL_agrees_5 rfl (by decide) rfl ?_
  refine j_iconst (pc' := 7) (v := nI 0) dL_agrees_6 rfl rfl ?_
  refine j_istore (pc' := 9) (lv' := [_, _, _, _, _, _, _, _, _, _, _, _, _]) dL_agrees_7 rfl (by decide) rfl ?_
  refine j_iconst (pc' := 10) (v := nI 0) dL_agrees_9 rfl rfl ?_
  refine j_istore (pc' := 12) (lv' := [_, _, _, _, _, _, _, _, _, _, _, _, _]) dL_agrees_10 rfl (by decide) rfl ?_
  refine j_iconst (pc' := 13) (v := nI 0) dL_agrees_12 rfl rfl ?_
  refine j_istore (pc' := 15) (lv' := [_, _, _, _, _, _, _, _, _, _, _, _, _]) dL_agrees_13 rfl (by decide) rfl ?_
  refine j_aload_n (pc' := 16) dL_agrees_15 rfl rfl ?_
  refine j_iconst (pc' := 17) (v := nI 0) dL_agrees_16 rfl rfl ?_
  refine j_cVi (pc' := 20) m_L_44 (p_plant hD hV (by omega) (by omega) (a := nI T) (fPl_0.trans hV.t)) Kd (by decide) rfl rfl rfl ⟨Nat.le_of_ble_eq_true rfl, Nat.le_of_ble_eq_true rfl⟩ ⟨Nat.le_of_ble_eq_true rfl, Nat.le_of_ble_eq_true rfl⟩ (Nat.le_of_ble_eq_true rfl) dL_agrees_17 rfl (fun x1 J1 hq => ?_)
  obtain ⟨hx, hI⟩ := hq
  rw [hx, hI]
  refine j_istore (pc' := 22) (lv' := [_, _, _, _, _, _, _, _, _, _, _, _, _]) dL_agrees_20 rfl (by decide) rfl ?_
  refine j_iconst (pc' := 23) (v := nI 0) dL_agrees_22 rfl rfl ?_
  refine j_istore (pc' := 25) (lv' := [_, _, _, _, _, _, _, _, _, _, _, _, _]) dL_agrees_23 rfl (by decide) rfl ?_
  exact lp_agrees hV hN hB hP (va_up_self _ _ _) hda k 0 _ none none none none (by omega) (Nat.zero_le _) hD (fun w hw => by rw [va_up_self]; rfl)
