set_option maxRecDepth 100000 in
set_option maxHeartbeats 4000000 in
theorem law_tail {E : jx_E} {l : Launch} {n cells slots : Nat} {kd : jx_K} {R : jx_R} {I : jx_I} {d nn i T  B : Nat} {T1 B1 : Nat} {y4 y5 y7 y8 y9 y10 : Option Value} (hc1 : cells + 1 ≤ room_1.cells) (hc2 : slots + 5 ≤ room_1.slots) (hL5 : scL E ≤ 2048) (hnn : nn ≤ 16) (hn0 : 0 < nn) (hB : B + 5000000 < 2147483000) (hda : d + 344 ≤ E.2.2.1 + n) (kk : ∀ (kd : jx_K) (R : jx_R) (I : jx_I) (T1 B1 : Nat) (y4 y5 y6 y7 y8 y9 y10 : Option Value), T1 ≤ T + 30 → B1 ≤ B + 400000 → LZ kd R I d nn T1 B1 → jx_J E l cL_law 11 ret RL false room_1 370 6964 jx_QL (cells + 1) (slots + 5) (n + 1) kd R I 350 [some (.ref (scA E)), some (.ref d), some (.int (nI nn)), some (.int (nI (i + 1))), y4, y5, y6, y7, y8, y9, y10] []) (hT1 : T1 ≤ T + 30) (hB1 : B1 ≤ B + 400000) (hZ : LZ kd R I d nn T1 B1) : jx_J E l cL_law 11 ret RL false room_1 370 6964 jx_QL cells slots n kd R I 724 [some (.ref (scA E)), some (.ref d), some (.int (nI nn)), some (.int (nI i)), y4, y5, some (.int (nI 1)), y7, y8, y9, y10] [] := by
  obtain ⟨v, p, q, S, N, hD, hV, hN, hP⟩ := hZ
  refine j_iload (pc' := 726) dL_law_724 rfl rfl ?_
  refine j_ifF_eq (pc' := 729) (tgt := 737) (by decide) dL_law_726 (by decide) rfl ?_
  refine j_aload_n (pc' := 730) dL_law_729 rfl rfl ?_
  refine j_iload_n (pc' := 731) dL_law_730 rfl rfl ?_
  refine j_callS (pc' := 734) m_L_120 (c_L_agrees (a := E.2.2.1 + n) hD hV hN (by omega) hP rfl hda) rfl rfl ⟨Nat.le_of_ble_eq_true rfl, Nat.le_of_ble_eq_true rfl⟩ ⟨hc1, hc2⟩ (Nat.le_of_ble_eq_true rfl) dL_law_731 rfl (fun v1 n1 kd1 R1 I1 hq hn1 => ?_)
  obtain ⟨hx, hZ⟩ := hq
  rw [hx]
  subst hn1
  refine j_ifT_ne (tgt := 739) (by decide) dL_law_734 (by decide) ?_
  refine j_iincN (pc' := 742) (lv' := [_, _, _, _, _, _, _, _, _, _, _]) dL_law_739 rfl rfl (by decide) rfl ?_
  refine j_goto (tgt := 350) dL_law_742 (by decide) ?_
  exact kk kd1 R1 I1 T1 B1 _ _ _ _ _ _ _ hT1 hB1 hZ
set_option maxRecDepth 100000 in
set_option maxHeartbeats 4000000 in
theorem law_round {E : jx_E} {l : Launch} {n cells slots : Nat} {kd : jx_K} {R : jx_R} {I : jx_I} {d nn i T  B : Nat} {y4 y5 y6 y7 y8 y9 y10 : Option Value} (hc1 : cells + 1 ≤ room_1.cells) (hc2 : slots + 5 ≤ room_1.slots) (hL5 : scL E ≤ 2048) (hnn : nn ≤ 16) (hn0 : 0 < nn) (hB : B + 5000000 < 2147483000) (hda : d + 344 ≤ E.2.2.1 + n) (hi26 : i < 26) (hT : T + 30 ≤ 10000) (kk : ∀ (kd : jx_K) (R : jx_R) (I : jx_I) (T1 B1 : Nat) (y4 y5 y6 y7 y8 y9 y10 : Option Value), T1 ≤ T + 30 → B1 ≤ B + 400000 → LZ kd R I d nn T1 B1 → jx_J E l cL_law 11 ret RL false room_1 370 6964 jx_QL (cells + 1) (slots + 5) (n + 1) kd R I 350 [some (.ref (scA E)), some (.ref d), some (.int (nI nn)), some (.int (nI (i + 1))), y4, y5, y6, y7, y8, y9, y10] []) (hZ : LZ kd R I d nn T B) : jx_J E l cL_law 11 ret RL false room_1 370 6964 jx_QL cells slots n kd R I 350 [some (.ref (scA E)), some (.ref d), some (.int (nI nn)), some (.int (nI i)), y4, y5, y6, y7, y8, y9, y10] [] := by
  obtain ⟨v, p, q, S, N, hD, hV, hN, hP⟩ := hZ
  have Kd := hD.k5
  refine j_iload_n (pc' := 351) dL_law_350 rfl rfl ?_
  refine j_bipush (pc' := 353) (v := nI 26) dL_law_351 rfl rfl ?_
  refine j_icmpF_ge (pc' := 356) (tgt := 745) (nI_ge hi26 (by omega)) dL_law_353 (by decide) rfl ?_
  refine j_aload_n (pc' := 357) dL_law_356 rfl rfl ?_
  refine j_bipush (pc' := 359) (v := nI 12) dL_law_357 rfl rfl ?_
  refine j_iload_n (pc' := 360) dL_law_359 rfl rfl ?_
  refine j_iaddN' (pc' := 361) (by with_reducible rfl) (by with_reducible rfl) dL_law_360 rfl ?_
  refine j_cSi (pc' := 364) m_L_98 (c_L_cell (by omega) hL5) rfl rfl ⟨Nat.le_of_ble_eq_true rfl, Nat.le_of_ble_eq_true rfl⟩ ⟨Nat.le_trans (Nat.le_succ _) hc1, Nat.le_trans (Nat.le_add_right _ 5) hc2⟩ (Nat.le_of_ble_eq_true rfl) dL_law_361 rfl (fun xq J1 hq => ?_)
  rw [hq]
  refine j_istore (pc' := 366) (lv' := [_, _, _, _, _, _, _, _, _, _, _]) dL_law_364 rfl (by decide) rfl ?_
  refine j_iload (pc' := 368) dL_law_366 rfl rfl ?_
  refine j_iconst (pc' := 369) (v := nI 4) dL_law_368 rfl rfl ?_
  refine j_ishr (pc' := 370) dL_law_369 rfl ?_
  refine j_iload_n (pc' := 371) dL_law_370 rfl rfl ?_
  refine j_cSi (pc' := 374) m_L_102 (c_L_up (by omega) (by omega)) rfl rfl ⟨Nat.le_of_ble_eq_true rfl, Nat.le_of_ble_eq_true rfl⟩ ⟨Nat.le_trans (Nat.le_succ _) hc1, Nat.le_trans (Nat.le_add_right _ 5) hc2⟩ (Nat.le_of_ble_eq_true rfl) dL_law_371 rfl (fun x1 J1 hq => ?_)
  obtain ⟨⟨jp, hjp, hx⟩, hJ⟩ := hq
  rw [hx, hJ]
  refine j_istore (pc' := 376) (lv' := [_, _, _, _, _, _, _, _, _, _, _]) dL_law_374 rfl (by decide) rfl ?_
  refine j_iconst (pc' := 377) (v := nI 1) dL_law_376 rfl rfl ?_
  refine j_istore (pc' := 379) (lv' := [_, _, _, _, _, _, _, _, _, _, _]) dL_law_377 rfl (by decide) rfl ?_
  refine j_iload (pc' := 381) dL_law_379 rfl rfl ?_
  refine j_bipush (pc' := 383) (v := nI 9) dL_law_381 rfl rfl ?_
  refine j_cSi (pc' := 386) m_L_102 (c_L_up (by omega) (by omega)) rfl rfl ⟨Nat.le_of_ble_eq_true rfl, Nat.le_of_ble_eq_true rfl⟩ ⟨Nat.le_trans (Nat.le_succ _) hc1, Nat.le_trans (Nat.le_add_right _ 5) hc2⟩ (Nat.le_of_ble_eq_true rfl) dL_law_383 rfl (fun x1 J1 hq => ?_)
  obtain ⟨⟨jh, hjh, hx⟩, hJ⟩ := hq
  rw [hx, hJ]
  refine j_istore (pc' := 388) (lv' := [_, _, _, _, _, _, _, _, _, _, _]) dL_law_386 rfl (by decide) rfl ?_
  refine j_iload (pc' := 390) dL_law_388 rfl rfl ?_
  refine j_iconst (pc' := 391) (v := nI 3) dL_law_390 rfl rfl ?_
  refine j_icmp_ge (pc' := 394) (tgt := 506) dL_law_391 rfl (by decide) (fun c391 => ?_) (fun c391 => ?_)
  ·
    refine j_iload (pc' := 508) dL_law_506 rfl rfl ?_
    refine j_iconst (pc' := 509) (v := nI 3) dL_law_508 rfl rfl ?_
    refine j_icmp_ne (pc' := 512) (tgt := 534) dL_law_509 rfl (by decide) (fun c509 => ?_) (fun c509 => ?_)
    ·
      refine j_iload (pc' := 536) dL_law_534 rfl rfl ?_
      refine j_bipush (pc' := 538) (v := nI 6) dL_law_536 rfl rfl ?_
      refine j_icmp_ge (pc' := 541) (tgt := 566) dL_law_538 rfl (by decide) (fun c538 => ?_) (fun c538 => ?_)
      ·
        refine j_iload (pc' := 568) dL_law_566 rfl rfl ?_
        refine j_bipush (pc' := 570) (v := nI 6) dL_law_568 rfl rfl ?_
        refine j_icmp_ne (pc' := 573) (tgt := 596) dL_law_570 rfl (by decide) (fun c570 => ?_) (fun c570 => ?_)
        ·
          refine j_iload (pc' := 598) dL_law_596 rfl rfl ?_
          refine j_bipush (pc' := 600) (v := nI 7) dL_law_598 rfl rfl ?_
          refine j_icmp_ne (pc' := 603) (tgt := 638) dL_law_600 rfl (by decide) (fun c600 => ?_) (fun c600 => ?_)
          ·
            refine j_aload_n (pc' := 639) dL_law_638 rfl rfl ?_
            refine j_iload (pc' := 641) dL_law_639 rfl rfl ?_
            refine j_iconst (pc' := 642) (v := nI 5) dL_law_641 rfl rfl ?_
            refine j_cVi (pc' := 645) m_L_31 (p_point hD hV (by omega) (by omega) (a := v (176 + 56 * jp + 5)) (fPt_w hV.z hnn hjp (show 5 < 15 from by omega))) Kd (by decide) rfl rfl rfl ⟨Nat.le_of_ble_eq_true rfl, Nat.le_of_ble_eq_true rfl⟩ ⟨Nat.le_trans (Nat.le_succ _) hc1, Nat.le_trans (Nat.le_add_right _ 5) hc2⟩ (Nat.le_of_ble_eq_true rfl) dL_law_642 rfl (fun x1 J1 hq => ?_)
            obtain ⟨hx, hI⟩ := hq
            rw [hx, hI]
            refine j_istore (pc' := 647) (lv' := [_, _, _, _, _, _, _, _, _, _, _]) dL_law_645 rfl (by decide) rfl ?_
            refine j_aload_n (pc' := 648) dL_law_647 rfl rfl ?_
            refine j_iload (pc' := 650) dL_law_648 rfl rfl ?_
            refine j_bipush (pc' := 652) (v := nI 13) dL_law_650 rfl rfl ?_
            refine j_cVi (pc' := 655) m_L_31 (p_point hD hV (by omega) (by omega) (a := v (176 + 56 * jp + 13)) (fPt_w hV.z hnn hjp (show 13 < 15 from by omega))) Kd (by decide) rfl rfl rfl ⟨Nat.le_of_ble_eq_true rfl, Nat.le_of_ble_eq_true rfl⟩ ⟨Nat.le_trans (Nat.le_succ _) hc1, Nat.le_trans (Nat.le_add_right _ 5) hc2⟩ (Nat.le_of_ble_eq_true rfl) dL_law_652 rfl (fun x1 J1 hq => ?_)
            obtain ⟨hx, hI⟩ := hq
            rw [hx, hI]
            refine j_istore (pc' := 657) (lv' := [_, _, _, _, _, _, _, _, _, _, _]) dL_law_655 rfl (by decide) rfl ?_
            refine j_aload_n (pc' := 658) dL_law_657 rfl rfl ?_
            refine j_cVi (pc' := 661) m_L_65 (p_events hD hV (by omega) (by omega) (a := nI N) (hV.n)) Kd (by decide) rfl rfl rfl ⟨Nat.le_of_ble_eq_true rfl, Nat.le_of_ble_eq_true rfl⟩ ⟨Nat.le_trans (Nat.le_succ _) hc1, Nat.le_trans (Nat.le_add_right _ 5) hc2⟩ (Nat.le_of_ble_eq_true rfl) dL_law_658 rfl (fun x1 J1 hq => ?_)
            obtain ⟨hx, hI⟩ := hq
            rw [hx, hI]
            refine j_istore (pc' := 663) (lv' := [_, _, _, _, _, _, _, _, _, _, _]) dL_law_661 rfl (by decide) rfl ?_
            refine j_aload_n (pc' := 664) dL_law_663 rfl rfl ?_
            refine j_iload (pc' := 666) dL_law_664 rfl rfl ?_
            refine j_iconst (pc' := 667) (v := nI 5) dL_law_666 rfl rfl ?_
            refine j_iconst (pc' := 668) (v := nI 1) dL_law_667 rfl rfl ?_
            refine j_iload (pc' := 670) dL_law_668 rfl rfl ?_
            refine j_bipush (pc' := 672) (v := nI 8) dL_law_670 rfl rfl ?_
            refine j_ishr (pc' := 673) dL_law_672 rfl ?_
            refine j_iconst (pc' := 674) (v := nI 4) dL_law_673 rfl rfl ?_
            refine j_cSi (pc' := 677) m_L_102 (c_L_up (by omega) (by omega)) rfl rfl ⟨Nat.le_of_ble_eq_true rfl, Nat.le_of_ble_eq_true rfl⟩ ⟨Nat.le_trans (Nat.le_succ _) hc1, Nat.le_trans (Nat.le_add_right _ 5) hc2⟩ (Nat.le_of_ble_eq_true rfl) dL_law_674 rfl (fun x1 J1 hq => ?_)
            obtain ⟨⟨jz, hjz, hx⟩, hJ⟩ := hq
            rw [hx, hJ]
            refine j_iaddN' (pc' := 678) (by with_reducible rfl) (by with_reducible rfl) dL_law_677 rfl ?_
            refine j_cViR (pc' := 681) m_L_21 (p_sp hD hV hN (by omega) hP hjp (by omega) (by omega)) Kd (by decide) rfl rfl rfl ⟨Nat.le_of_ble_eq_true rfl, Nat.le_of_ble_eq_true rfl⟩ ⟨Nat.le_trans (Nat.le_succ _) hc1, Nat.le_trans (Nat.le_add_right _ 5) hc2⟩ (Nat.le_of_ble_eq_true rfl) dL_law_678 rfl (fun x1 R1 I1 hq => ?_)
            obtain ⟨hx, w, p, q, N2, hD, hV2, hN2, hP2, h5, hcase⟩ := hq
            rw [hx]
            refine j_iload (pc' := 683) dL_law_681 rfl rfl ?_
            refine j_icmpF_ne (pc' := 686) (tgt := 721) (rfl) dL_law_683 (by decide) rfl ?_
            rcases hcase with ⟨f1, e⟩ | ⟨f1, f2, e⟩ | ⟨f1, f2, e⟩
            ·
              refine j_aload_n (pc' := 687) dL_law_686 rfl rfl ?_
              refine j_cVi (pc' := 690) m_L_65 (p_events hD hV2 (by omega) (by omega) (a := nI N) (hV2.n.trans (congrArg nI e))) Kd (by decide) rfl rfl rfl ⟨Nat.le_of_ble_eq_true rfl, Nat.le_of_ble_eq_true rfl⟩ ⟨Nat.le_trans (Nat.le_succ _) hc1, Nat.le_trans (Nat.le_add_right _ 5) hc2⟩ (Nat.le_of_ble_eq_true rfl) dL_law_687 rfl (fun x1 J1 hq => ?_)
              obtain ⟨hx, hI⟩ := hq
              rw [hx, hI]
              refine j_iload (pc' := 692) dL_law_690 rfl rfl ?_
              refine j_iload (pc' := 694) dL_law_692 rfl rfl ?_
              refine j_ifT_le (tgt := 712) (f1) dL_law_694 (by decide) ?_
              refine j_iconst (pc' := 713) (v := nI 0) dL_law_712 rfl rfl ?_
              refine j_iaddN' (pc' := 714) (by with_reducible rfl) (by with_reducible rfl) dL_law_713 rfl ?_
              refine j_icmpF_ne (pc' := 717) (tgt := 721) (rfl) dL_law_714 (by decide) rfl ?_
              refine j_iconst (pc' := 718) (v := nI 1) dL_law_717 rfl rfl ?_
              refine j_goto (tgt := 722) dL_law_718 (by decide) ?_
              refine j_istore (pc' := 724) (lv' := [_, _, _, _, _, _, _, _, _, _, _]) dL_law_722 rfl (by decide) rfl ?_
              have hZ : LZ kd R1 I1 d nn T _ := ⟨w, p, q, S, N2, hD, hV2, hN2, hP2⟩
              exact law_tail hc1 hc2 hL5 hnn hn0 hB hda kk (by omega) (by omega) hZ
            ·
              refine j_aload_n (pc' := 687) dL_law_686 rfl rfl ?_
              refine j_cVi (pc' := 690) m_L_65 (p_events hD hV2 (by omega) (by omega) (a := nI N) (hV2.n.trans (congrArg nI e))) Kd (by decide) rfl rfl rfl ⟨Nat.le_of_ble_eq_true rfl, Nat.le_of_ble_eq_true rfl⟩ ⟨Nat.le_trans (Nat.le_succ _) hc1, Nat.le_trans (Nat.le_add_right _ 5) hc2⟩ (Nat.le_of_ble_eq_true rfl) dL_law_687 rfl (fun x1 J1 hq => ?_)
              obtain ⟨hx, hI⟩ := hq
              rw [hx, hI]
              refine j_iload (pc' := 692) dL_law_690 rfl rfl ?_
              refine j_iload (pc' := 694) dL_law_692 rfl rfl ?_
              refine j_ifF_le (pc' := 697) (tgt := 712) (f1) dL_law_694 (by decide) rfl ?_
              refine j_aload_n (pc' := 698) dL_law_697 rfl rfl ?_
              refine j_iload (pc' := 700) dL_law_698 rfl rfl ?_
              refine j_iconst (pc' := 701) (v := nI 5) dL_law_700 rfl rfl ?_
              refine j_cVi (pc' := 704) m_L_31 (p_point hD hV2 (by omega) (by omega) (a := nI (1 + jz)) ((fPt_w hV2.z hnn hjp (show 5 < 15 from by omega)).trans h5)) Kd (by decide) rfl rfl rfl ⟨Nat.le_of_ble_eq_true rfl, Nat.le_of_ble_eq_true rfl⟩ ⟨Nat.le_trans (Nat.le_succ _) hc1, Nat.le_trans (Nat.le_add_right _ 5) hc2⟩ (Nat.le_of_ble_eq_true rfl) dL_law_701 rfl (fun x1 J1 hq => ?_)
              obtain ⟨hx, hI⟩ := hq
              rw [hx, hI]
              refine j_iconst (pc' := 705) (v := nI 1) dL_law_704 rfl rfl ?_
              refine j_icmpT_ne (tgt := 712) (f2) dL_law_705 (by decide) ?_
              refine j_iconst (pc' := 713) (v := nI 0) dL_law_712 rfl rfl ?_
              refine j_iaddN' (pc' := 714) (by with_reducible rfl) (by with_reducible rfl) dL_law_713 rfl ?_
              refine j_icmpF_ne (pc' := 717) (tgt := 721) (rfl) dL_law_714 (by decide) rfl ?_
              refine j_iconst (pc' := 718) (v := nI 1) dL_law_717 rfl rfl ?_
              refine j_goto (tgt := 722) dL_law_718 (by decide) ?_
              refine j_istore (pc' := 724) (lv' := [_, _, _, _, _, _, _, _, _, _, _]) dL_law_722 rfl (by decide) rfl ?_
              have hZ : LZ kd R1 I1 d nn T _ := ⟨w, p, q, S, N2, hD, hV2, hN2, hP2⟩
              exact law_tail hc1 hc2 hL5 hnn hn0 hB hda kk (by omega) (by omega) hZ
            ·
              refine j_aload_n (pc' := 687) dL_law_686 rfl rfl ?_
              refine j_cVi (pc' := 690) m_L_65 (p_events hD hV2 (by omega) (by omega) (a := nI (N + 1)) (hV2.n.trans (congrArg nI e))) Kd (by decide) rfl rfl rfl ⟨Nat.le_of_ble_eq_true rfl, Nat.le_of_ble_eq_true rfl⟩ ⟨Nat.le_trans (Nat.le_succ _) hc1, Nat.le_trans (Nat.le_add_right _ 5) hc2⟩ (Nat.le_of_ble_eq_true rfl) dL_law_687 rfl (fun x1 J1 hq => ?_)
              obtain ⟨hx, hI⟩ := hq
              rw [hx, hI]
              refine j_iload (pc' := 692) dL_law_690 rfl rfl ?_
              refine j_iload (pc' := 694) dL_law_692 rfl rfl ?_
              refine j_ifF_le (pc' := 697) (tgt := 712) (f1) dL_law_694 (by decide) rfl ?_
              refine j_aload_n (pc' := 698) dL_law_697 rfl rfl ?_
              refine j_iload (pc' := 700) dL_law_698 rfl rfl ?_
              refine j_iconst (pc' := 701) (v := nI 5) dL_law_700 rfl rfl ?_
              refine j_cVi (pc' := 704) m_L_31 (p_point hD hV2 (by omega) (by omega) (a := nI (1 + jz)) ((fPt_w hV2.z hnn hjp (show 5 < 15 from by omega)).trans h5)) Kd (by decide) rfl rfl rfl ⟨Nat.le_of_ble_eq_true rfl, Nat.le_of_ble_eq_true rfl⟩ ⟨Nat.le_trans (Nat.le_succ _) hc1, Nat.le_trans (Nat.le_add_right _ 5) hc2⟩ (Nat.le_of_ble_eq_true rfl) dL_law_701 rfl (fun x1 J1 hq => ?_)
              obtain ⟨hx, hI⟩ := hq
              rw [hx, hI]
              refine j_iconst (pc' := 705) (v := nI 1) dL_law_704 rfl rfl ?_
              refine j_icmpF_ne (pc' := 708) (tgt := 712) (f2) dL_law_705 (by decide) rfl ?_
              refine j_iconst (pc' := 709) (v := nI 1) dL_law_708 rfl rfl ?_
              refine j_goto (tgt := 713) dL_law_709 (by decide) ?_
              refine j_iaddN' (pc' := 714) (by with_reducible rfl) (by with_reducible rfl) dL_law_713 rfl ?_
              refine j_icmpF_ne (pc' := 717) (tgt := 721) (rfl) dL_law_714 (by decide) rfl ?_
              refine j_iconst (pc' := 718) (v := nI 1) dL_law_717 rfl rfl ?_
              refine j_goto (tgt := 722) dL_law_718 (by decide) ?_
              refine j_istore (pc' := 724) (lv' := [_, _, _, _, _, _, _, _, _, _, _]) dL_law_722 rfl (by decide) rfl ?_
              have hZ : LZ kd R1 I1 d nn T _ := ⟨w, p, q, S, N2, hD, hV2, hN2, hP2⟩
              exact law_tail hc1 hc2 hL5 hnn hn0 hB hda kk (by omega) (by omega) hZ
          ·
            refine j_aload_n (pc' := 604) dL_law_603 rfl rfl ?_
            refine j_iconst (pc' := 605) (v := nI 1) dL_law_604 rfl rfl ?_
            refine j_cVi (pc' := 608) m_L_44 (p_plant hD hV (by omega) (by omega) (a := v 2) (fPl_1)) Kd (by decide) rfl rfl rfl ⟨Nat.le_of_ble_eq_true rfl, Nat.le_of_ble_eq_true rfl⟩ ⟨Nat.le_trans (Nat.le_succ _) hc1, Nat.le_trans (Nat.le_add_right _ 5) hc2⟩ (Nat.le_of_ble_eq_true rfl) dL_law_605 rfl (fun x1 J1 hq => ?_)
            obtain ⟨hx, hI⟩ := hq
            rw [hx, hI]
            refine j_istore (pc' := 610) (lv' := [_, _, _, _, _, _, _, _, _, _, _]) dL_law_608 rfl (by decide) rfl ?_
            refine j_aload_n (pc' := 611) dL_law_610 rfl rfl ?_
            refine j_iload (pc' := 613) dL_law_611 rfl rfl ?_
            refine j_bipush (pc' := 615) (v := nI 8) dL_law_613 rfl rfl ?_
            refine j_ishr (pc' := 616) dL_law_615 rfl ?_
            refine j_iconst (pc' := 617) (v := nI 4) dL_law_616 rfl rfl ?_
            refine j_cSi (pc' := 620) m_L_102 (c_L_up (by omega) (by omega)) rfl rfl ⟨Nat.le_of_ble_eq_true rfl, Nat.le_of_ble_eq_true rfl⟩ ⟨Nat.le_trans (Nat.le_succ _) hc1, Nat.le_trans (Nat.le_add_right _ 5) hc2⟩ (Nat.le_of_ble_eq_true rfl) dL_law_617 rfl (fun x1 J1 hq => ?_)
            obtain ⟨⟨js, hjs, hx⟩, hJ⟩ := hq
            rw [hx, hJ]
            refine j_cViR (pc' := 623) m_L_34 (p_ss hD hV hN (by omega) hP (by omega)) Kd (by decide) rfl rfl rfl ⟨Nat.le_of_ble_eq_true rfl, Nat.le_of_ble_eq_true rfl⟩ ⟨Nat.le_trans (Nat.le_succ _) hc1, Nat.le_trans (Nat.le_add_right _ 5) hc2⟩ (Nat.le_of_ble_eq_true rfl) dL_law_620 rfl (fun x1 R1 I1 hq => ?_)
            obtain ⟨hx, hZ⟩ := hq
            rw [hx]
            refine j_iload (pc' := 625) dL_law_623 rfl rfl ?_
            refine j_icmpF_ne (pc' := 628) (tgt := 632) (rfl) dL_law_625 (by decide) rfl ?_
            refine j_iconst (pc' := 629) (v := nI 1) dL_law_628 rfl rfl ?_
            refine j_goto (tgt := 633) dL_law_629 (by decide) ?_
            refine j_istore (pc' := 635) (lv' := [_, _, _, _, _, _, _, _, _, _, _]) dL_law_633 rfl (by decide) rfl ?_
            refine j_goto (tgt := 724) dL_law_635 (by decide) ?_
            exact law_tail hc1 hc2 hL5 hnn hn0 hB hda kk (by omega) (by omega) hZ
        ·
          refine j_aload_n (pc' := 574) dL_law_573 rfl rfl ?_
          refine j_iload (pc' := 576) dL_law_574 rfl rfl ?_
          refine j_iconst (pc' := 577) (v := nI 1) dL_law_576 rfl rfl ?_
          refine j_iload (pc' := 579) dL_law_577 rfl rfl ?_
          refine j_bipush (pc' := 581) (v := nI 8) dL_law_579 rfl rfl ?_
          refine j_ishr (pc' := 582) dL_law_581 rfl ?_
          refine j_bipush (pc' := 584) (v := nI 12) dL_law_582 rfl rfl ?_
          refine j_cSi (pc' := 587) m_L_102 (c_L_up (by omega) (by omega)) rfl rfl ⟨Nat.le_of_ble_eq_true rfl, Nat.le_of_ble_eq_true rfl⟩ ⟨Nat.le_trans (Nat.le_succ _) hc1, Nat.le_trans (Nat.le_add_right _ 5) hc2⟩ (Nat.le_of_ble_eq_true rfl) dL_law_584 rfl (fun x1 J1 hq => ?_)
          obtain ⟨⟨jy, hjy, hx⟩, hJ⟩ := hq
          rw [hx, hJ]
          refine j_iaddN' (pc' := 588) (by with_reducible rfl) (by with_reducible rfl) dL_law_587 rfl ?_
          refine j_cSiR (pc' := 591) m_L_117 (c_L_shelves hD hV hN (by omega) hP hjp (by omega) (by omega)) rfl rfl ⟨Nat.le_of_ble_eq_true rfl, Nat.le_of_ble_eq_true rfl⟩ ⟨Nat.le_trans (Nat.le_succ _) hc1, Nat.le_trans (Nat.le_add_right _ 5) hc2⟩ (Nat.le_of_ble_eq_true rfl) dL_law_588 rfl (fun x1 R1 I1 hq => ?_)
          obtain ⟨hx, hZ⟩ := hq
          rw [hx]
          refine j_istore (pc' := 593) (lv' := [_, _, _, _, _, _, _, _, _, _, _]) dL_law_591 rfl (by decide) rfl ?_
          refine j_goto (tgt := 724) dL_law_593 (by decide) ?_
          exact law_tail hc1 hc2 hL5 hnn hn0 hB hda kk (by omega) (by omega) hZ
      ·
        refine j_aload_n (pc' := 542) dL_law_541 rfl rfl ?_
        refine j_iload (pc' := 544) dL_law_542 rfl rfl ?_
        refine j_iload (pc' := 546) dL_law_544 rfl rfl ?_
        refine j_sipush (pc' := 549) (v := nI 256) dL_law_546 rfl rfl ?_
        refine j_iand (pc' := 550) dL_law_549 rfl ?_
        refine j_if_eq (pc' := 553) (tgt := 557) dL_law_550 rfl (by decide) (fun c550 => ?_) (fun c550 => ?_)
        ·
          refine j_iconst (pc' := 558) (v := nI 0) dL_law_557 rfl rfl ?_
          refine j_cSiR (pc' := 561) m_L_113 (c_L_acksF hD hV hN (by omega) hP hjp) rfl rfl ⟨Nat.le_of_ble_eq_true rfl, Nat.le_of_ble_eq_true rfl⟩ ⟨Nat.le_trans (Nat.le_succ _) hc1, Nat.le_trans (Nat.le_add_right _ 5) hc2⟩ (Nat.le_of_ble_eq_true rfl) dL_law_558 rfl (fun x1 R1 I1 hq => ?_)
          obtain ⟨hx, hZ⟩ := hq
          rw [hx]
          refine j_istore (pc' := 563) (lv' := [_, _, _, _, _, _, _, _, _, _, _]) dL_law_561 rfl (by decide) rfl ?_
          refine j_goto (tgt := 724) dL_law_563 (by decide) ?_
          exact law_tail hc1 hc2 hL5 hnn hn0 hB hda kk (by omega) (by omega) hZ
        ·
          refine j_iconst (pc' := 554) (v := nI 1) dL_law_553 rfl rfl ?_
          refine j_goto (tgt := 558) dL_law_554 (by decide) ?_
          refine j_cSiR (pc' := 561) m_L_113 (c_L_acksT hD hV hN (by omega) hP) rfl rfl ⟨Nat.le_of_ble_eq_true rfl, Nat.le_of_ble_eq_true rfl⟩ ⟨Nat.le_trans (Nat.le_succ _) hc1, Nat.le_trans (Nat.le_add_right _ 5) hc2⟩ (Nat.le_of_ble_eq_true rfl) dL_law_558 rfl (fun x1 R1 I1 hq => ?_)
          obtain ⟨hx, hZ⟩ := hq
          rw [hx]
          refine j_istore (pc' := 563) (lv' := [_, _, _, _, _, _, _, _, _, _, _]) dL_law_561 rfl (by decide) rfl ?_
          refine j_goto (tgt := 724) dL_law_563 (by decide) ?_
          exact law_tail hc1 hc2 hL5 hnn hn0 hB hda kk (by omega) (by omega) hZ
    ·
      refine j_aload_n (pc' := 513) dL_law_512 rfl rfl ?_
      refine j_iload_n (pc' := 514) dL_law_513 rfl rfl ?_
      refine j_iconst (pc' := 515) (v := nI 1) dL_law_514 rfl rfl ?_
      refine j_iload (pc' := 517) dL_law_515 rfl rfl ?_
      refine j_bipush (pc' := 519) (v := nI 8) dL_law_517 rfl rfl ?_
      refine j_ishr (pc' := 520) dL_law_519 rfl ?_
      refine j_bipush (pc' := 522) (v := nI 25) dL_law_520 rfl rfl ?_
      refine j_cSi (pc' := 525) m_L_102 (c_L_up (by omega) (by omega)) rfl rfl ⟨Nat.le_of_ble_eq_true rfl, Nat.le_of_ble_eq_true rfl⟩ ⟨Nat.le_trans (Nat.le_succ _) hc1, Nat.le_trans (Nat.le_add_right _ 5) hc2⟩ (Nat.le_of_ble_eq_true rfl) dL_law_522 rfl (fun x1 J1 hq => ?_)
      obtain ⟨⟨jt, hjt, hx⟩, hJ⟩ := hq
      rw [hx, hJ]
      refine j_iaddN' (pc' := 526) (by with_reducible rfl) (by with_reducible rfl) dL_law_525 rfl ?_
      refine j_cSiR (pc' := 529) m_L_109 (c_L_ticks (m := 1 + jt) hD hV hN (by omega) hP (by omega) (by omega) (by omega)) rfl rfl ⟨Nat.le_of_ble_eq_true rfl, Nat.le_of_ble_eq_true rfl⟩ ⟨Nat.le_trans (Nat.le_succ _) hc1, Nat.le_trans (Nat.le_add_right _ 5) hc2⟩ (Nat.le_of_ble_eq_true rfl) dL_law_526 rfl (fun x1 R1 I1 hq => ?_)
      obtain ⟨hx, hZ⟩ := hq
      rw [hx]
      refine j_istore (pc' := 531) (lv' := [_, _, _, _, _, _, _, _, _, _, _]) dL_law_529 rfl (by decide) rfl ?_
      refine j_goto (tgt := 724) dL_law_531 (by decide) ?_
      exact law_tail hc1 hc2 hL5 hnn hn0 hB hda kk (by omega) (by omega) hZ
  ·
    refine j_iconst (pc' := 395) (v := nI 0) dL_law_394 rfl rfl ?_
    refine j_istore (pc' := 397) (lv' := [_, _, _, _, _, _, _, _, _, _, _]) dL_law_395 rfl (by decide) rfl ?_
    refine j_iload (pc' := 399) dL_law_397 rfl rfl ?_
    refine j_iconst (pc' := 400) (v := nI 3) dL_law_399 rfl rfl ?_
    refine j_icmpF_ge (pc' := 403) (tgt := 472) (by decide) dL_law_400 (by decide) rfl ?_
    refine j_aload_n (pc' := 404) dL_law_403 rfl rfl ?_
    refine j_iload (pc' := 406) dL_law_404 rfl rfl ?_
    refine j_iload (pc' := 408) dL_law_406 rfl rfl ?_
    refine j_iaddN' (pc' := 409) (by with_reducible rfl) (by with_reducible rfl) dL_law_408 rfl ?_
    refine j_iload_n (pc' := 410) dL_law_409 rfl rfl ?_
    refine j_iremN' (pc' := 411) (by with_reducible rfl) (by with_reducible rfl) (by omega) (by omega) (by omega) dL_law_410 rfl ?_
    refine j_bipush (pc' := 413) (v := nI 7) dL_law_411 rfl rfl ?_
    refine j_cVi (pc' := 416) m_L_31 (p_point hD hV (by omega) (by omega) (a := v (176 + 56 * ((jp + 0) % nn) + 7)) (fPt_w hV.z hnn (show ((jp + 0) % nn) < nn from Nat.mod_lt _ hn0) (show 7 < 15 from by omega))) Kd (by decide) rfl rfl rfl ⟨Nat.le_of_ble_eq_true rfl, Nat.le_of_ble_eq_true rfl⟩ ⟨Nat.le_trans (Nat.le_succ _) hc1, Nat.le_trans (Nat.le_add_right _ 5) hc2⟩ (Nat.le_of_ble_eq_true rfl) dL_law_413 rfl (fun x1 J1 hq => ?_)
    obtain ⟨hx, hI⟩ := hq
    rw [hx, hI]
    refine j_istore (pc' := 418) (lv' := [_, _, _, _, _, _, _, _, _, _, _]) dL_law_416 rfl (by decide) rfl ?_
    refine j_iload (pc' := 420) dL_law_418 rfl rfl ?_
    refine j_ifF_eq (pc' := 423) (tgt := 463) (by decide) dL_law_420 (by decide) rfl ?_
    refine j_aload_n (pc' := 424) dL_law_423 rfl rfl ?_
    refine j_iload (pc' := 426) dL_law_424 rfl rfl ?_
    refine j_iload (pc' := 428) dL_law_426 rfl rfl ?_
    refine j_iaddN' (pc' := 429) (by with_reducible rfl) (by with_reducible rfl) dL_law_428 rfl ?_
    refine j_iload_n (pc' := 430) dL_law_429 rfl rfl ?_
    refine j_iremN' (pc' := 431) (by with_reducible rfl) (by with_reducible rfl) (by omega) (by omega) (by omega) dL_law_430 rfl ?_
    refine j_iload (pc' := 433) dL_law_431 rfl rfl ?_
    refine j_bipush (pc' := 435) (v := nI 8) dL_law_433 rfl rfl ?_
    refine j_iconst (pc' := 436) (v := nI 3) dL_law_435 rfl rfl ?_
    refine j_iload (pc' := 438) dL_law_436 rfl rfl ?_
    refine j_imulN' (pc' := 439) (by with_reducible rfl) (by with_reducible rfl) dL_law_438 rfl ?_
    refine j_iaddN' (pc' := 440) (by with_reducible rfl) (by with_reducible rfl) dL_law_439 rfl ?_
    refine j_ishr (pc' := 441) dL_law_440 rfl ?_
    refine j_sipush (pc' := 444) (v := nI 301) dL_law_441 rfl rfl ?_
    refine j_cSi (pc' := 447) m_L_102 (c_L_up (by omega) (by omega)) rfl rfl ⟨Nat.le_of_ble_eq_true rfl, Nat.le_of_ble_eq_true rfl⟩ ⟨Nat.le_trans (Nat.le_succ _) hc1, Nat.le_trans (Nat.le_add_right _ 5) hc2⟩ (Nat.le_of_ble_eq_true rfl) dL_law_444 rfl (fun x1 J1 hq => ?_)
    obtain ⟨⟨jv, hjv, hx⟩, hJ⟩ := hq
    rw [hx, hJ]
    refine j_sipush (pc' := 450) (v := nI 150) dL_law_447 rfl rfl ?_
    refine j_isub (pc' := 451) dL_law_450 rfl ?_
    refine j_cViR (pc' := 454) m_L_28 (p_sv hD hV hN (by omega) hP (Nat.mod_lt _ hn0) (okV_sub (by omega) (by omega))) Kd (by decide) rfl rfl rfl ⟨Nat.le_of_ble_eq_true rfl, Nat.le_of_ble_eq_true rfl⟩ ⟨Nat.le_trans (Nat.le_succ _) hc1, Nat.le_trans (Nat.le_add_right _ 5) hc2⟩ (Nat.le_of_ble_eq_true rfl) dL_law_451 rfl (fun x1 R1 I1 hq => ?_)
    obtain ⟨hx, hZ⟩ := hq
    rw [hx]
    refine j_iload (pc' := 456) dL_law_454 rfl rfl ?_
    refine j_icmpF_ne (pc' := 459) (tgt := 463) (rfl) dL_law_456 (by decide) rfl ?_
    refine j_iconst (pc' := 460) (v := nI 1) dL_law_459 rfl rfl ?_
    refine j_goto (tgt := 464) dL_law_460 (by decide) ?_
    refine j_istore (pc' := 466) (lv' := [_, _, _, _, _, _, _, _, _, _, _]) dL_law_464 rfl (by decide) rfl ?_
    obtain ⟨v, p, q, S, N, hD, hV, hN, hP⟩ := hZ
    refine j_iincN (pc' := 469) (lv' := [_, _, _, _, _, _, _, _, _, _, _]) dL_law_466 rfl rfl (by decide) rfl ?_
    refine j_goto (tgt := 397) dL_law_469 (by decide) ?_
    refine j_iload (pc' := 399) dL_law_397 rfl rfl ?_
    refine j_iconst (pc' := 400) (v := nI 3) dL_law_399 rfl rfl ?_
    refine j_icmpF_ge (pc' := 403) (tgt := 472) (by decide) dL_law_400 (by decide) rfl ?_
    refine j_aload_n (pc' := 404) dL_law_403 rfl rfl ?_
    refine j_iload (pc' := 406) dL_law_404 rfl rfl ?_
    refine j_iload (pc' := 408) dL_law_406 rfl rfl ?_
    refine j_iaddN' (pc' := 409) (by with_reducible rfl) (by with_reducible rfl) dL_law_408 rfl ?_
    refine j_iload_n (pc' := 410) dL_law_409 rfl rfl ?_
    refine j_iremN' (pc' := 411) (by with_reducible rfl) (by with_reducible rfl) (by omega) (by omega) (by omega) dL_law_410 rfl ?_
    refine j_bipush (pc' := 413) (v := nI 7) dL_law_411 rfl rfl ?_
    refine j_cVi (pc' := 416) m_L_31 (p_point hD hV (by omega) (by omega) (a := v (176 + 56 * ((jp + 1) % nn) + 7)) (fPt_w hV.z hnn (show ((jp + 1) % nn) < nn from Nat.mod_lt _ hn0) (show 7 < 15 from by omega))) Kd (by decide) rfl rfl rfl ⟨Nat.le_of_ble_eq_true rfl, Nat.le_of_ble_eq_true rfl⟩ ⟨Nat.le_trans (Nat.le_succ _) hc1, Nat.le_trans (Nat.le_add_right _ 5) hc2⟩ (Nat.le_of_ble_eq_true rfl) dL_law_413 rfl (fun x1 J1 hq => ?_)
    obtain ⟨hx, hI⟩ := hq
    rw [hx, hI]
    refine j_istore (pc' := 418) (lv' := [_, _, _, _, _, _, _, _, _, _, _]) dL_law_416 rfl (by decide) rfl ?_
    refine j_iload (pc' := 420) dL_law_418 rfl rfl ?_
    refine j_ifF_eq (pc' := 423) (tgt := 463) (by decide) dL_law_420 (by decide) rfl ?_
    refine j_aload_n (pc' := 424) dL_law_423 rfl rfl ?_
    refine j_iload (pc' := 426) dL_law_424 rfl rfl ?_
    refine j_iload (pc' := 428) dL_law_426 rfl rfl ?_
    refine j_iaddN' (pc' := 429) (by with_reducible rfl) (by with_reducible rfl) dL_law_428 rfl ?_
    refine j_iload_n (pc' := 430) dL_law_429 rfl rfl ?_
    refine j_iremN' (pc' := 431) (by with_reducible rfl) (by with_reducible rfl) (by omega) (by omega) (by omega) dL_law_430 rfl ?_
    refine j_iload (pc' := 433) dL_law_431 rfl rfl ?_
    refine j_bipush (pc' := 435) (v := nI 8) dL_law_433 rfl rfl ?_
    refine j_iconst (pc' := 436) (v := nI 3) dL_law_435 rfl rfl ?_
    refine j_iload (pc' := 438) dL_law_436 rfl rfl ?_
    refine j_imulN' (pc' := 439) (by with_reducible rfl) (by with_reducible rfl) dL_law_438 rfl ?_
    refine j_iaddN' (pc' := 440) (by with_reducible rfl) (by with_reducible rfl) dL_law_439 rfl ?_
    refine j_ishr (pc' := 441) dL_law_440 rfl ?_
    refine j_sipush (pc' := 444) (v := nI 301) dL_law_441 rfl rfl ?_
    refine j_cSi (pc' := 447) m_L_102 (c_L_up (by omega) (by omega)) rfl rfl ⟨Nat.le_of_ble_eq_true rfl, Nat.le_of_ble_eq_true rfl⟩ ⟨Nat.le_trans (Nat.le_succ _) hc1, Nat.le_trans (Nat.le_add_right _ 5) hc2⟩ (Nat.le_of_ble_eq_true rfl) dL_law_444 rfl (fun x1 J1 hq => ?_)
    obtain ⟨⟨jv, hjv, hx⟩, hJ⟩ := hq
    rw [hx, hJ]
    refine j_sipush (pc' := 450) (v := nI 150) dL_law_447 rfl rfl ?_
    refine j_isub (pc' := 451) dL_law_450 rfl ?_
    refine j_cViR (pc' := 454) m_L_28 (p_sv hD hV hN (by omega) hP (Nat.mod_lt _ hn0) (okV_sub (by omega) (by omega))) Kd (by decide) rfl rfl rfl ⟨Nat.le_of_ble_eq_true rfl, Nat.le_of_ble_eq_true rfl⟩ ⟨Nat.le_trans (Nat.le_succ _) hc1, Nat.le_trans (Nat.le_add_right _ 5) hc2⟩ (Nat.le_of_ble_eq_true rfl) dL_law_451 rfl (fun x1 R1 I1 hq => ?_)
    obtain ⟨hx, hZ⟩ := hq
    rw [hx]
    refine j_iload (pc' := 456) dL_law_454 rfl rfl ?_
    refine j_icmpF_ne (pc' := 459) (tgt := 463) (rfl) dL_law_456 (by decide) rfl ?_
    refine j_iconst (pc' := 460) (v := nI 1) dL_law_459 rfl rfl ?_
    refine j_goto (tgt := 464) dL_law_460 (by decide) ?_
    refine j_istore (pc' := 466) (lv' := [_, _, _, _, _, _, _, _, _, _, _]) dL_law_464 rfl (by decide) rfl ?_
    obtain ⟨v, p, q, S, N, hD, hV, hN, hP⟩ := hZ
    refine j_iincN (pc' := 469) (lv' := [_, _, _, _, _, _, _, _, _, _, _]) dL_law_466 rfl rfl (by decide) rfl ?_
    refine j_goto (tgt := 397) dL_law_469 (by decide) ?_
    refine j_iload (pc' := 399) dL_law_397 rfl rfl ?_
    refine j_iconst (pc' := 400) (v := nI 3) dL_law_399 rfl rfl ?_
    refine j_icmpF_ge (pc' := 403) (tgt := 472) (by decide) dL_law_400 (by decide) rfl ?_
    refine j_aload_n (pc' := 404) dL_law_403 rfl rfl ?_
    refine j_iload (pc' := 406) dL_law_404 rfl rfl ?_
    refine j_iload (pc' := 408) dL_law_406 rfl rfl ?_
    refine j_iaddN' (pc' := 409) (by with_reducible rfl) (by with_reducible rfl) dL_law_408 rfl ?_
    refine j_iload_n (pc' := 410) dL_law_409 rfl rfl ?_
    refine j_iremN' (pc' := 411) (by with_reducible rfl) (by with_reducible rfl) (by omega) (by omega) (by omega) dL_law_410 rfl ?_
    refine j_bipush (pc' := 413) (v := nI 7) dL_law_411 rfl rfl ?_
    refine j_cVi (pc' := 416) m_L_31 (p_point hD hV (by omega) (by omega) (a := v (176 + 56 * ((jp + 2) % nn) + 7)) (fPt_w hV.z hnn (show ((jp + 2) % nn) < nn from Nat.mod_lt _ hn0) (show 7 < 15 from by omega))) Kd (by decide) rfl rfl rfl ⟨Nat.le_of_ble_eq_true rfl, Nat.le_of_ble_eq_true rfl⟩ ⟨Nat.le_trans (Nat.le_succ _) hc1, Nat.le_trans (Nat.le_add_right _ 5) hc2⟩ (Nat.le_of_ble_eq_true rfl) dL_law_413 rfl (fun x1 J1 hq => ?_)
    obtain ⟨hx, hI⟩ := hq
    rw [hx, hI]
    refine j_istore (pc' := 418) (lv' := [_, _, _, _, _, _, _, _, _, _, _]) dL_law_416 rfl (by decide) rfl ?_
    refine j_iload (pc' := 420) dL_law_418 rfl rfl ?_
    refine j_ifF_eq (pc' := 423) (tgt := 463) (by decide) dL_law_420 (by decide) rfl ?_
    refine j_aload_n (pc' := 424) dL_law_423 rfl rfl ?_
    refine j_iload (pc' := 426) dL_law_424 rfl rfl ?_
    refine j_iload (pc' := 428) dL_law_426 rfl rfl ?_
    refine j_iaddN' (pc' := 429) (by with_reducible rfl) (by with_reducible rfl) dL_law_428 rfl ?_
    refine j_iload_n (pc' := 430) dL_law_429 rfl rfl ?_
    refine j_iremN' (pc' := 431) (by with_reducible rfl) (by with_reducible rfl) (by omega) (by omega) (by omega) dL_law_430 rfl ?_
    refine j_iload (pc' := 433) dL_law_431 rfl rfl ?_
    refine j_bipush (pc' := 435) (v := nI 8) dL_law_433 rfl rfl ?_
    refine j_iconst (pc' := 436) (v := nI 3) dL_law_435 rfl rfl ?_
    refine j_iload (pc' := 438) dL_law_436 rfl rfl ?_
    refine j_imulN' (pc' := 439) (by with_reducible rfl) (by with_reducible rfl) dL_law_438 rfl ?_
    refine j_iaddN' (pc' := 440) (by with_reducible rfl) (by with_reducible rfl) dL_law_439 rfl ?_
    refine j_ishr (pc' := 441) dL_law_440 rfl ?_
    refine j_sipush (pc' := 444) (v := nI 301) dL_law_441 rfl rfl ?_
    refine j_cSi (pc' := 447) m_L_102 (c_L_up (by omega) (by omega)) rfl rfl ⟨Nat.le_of_ble_eq_true rfl, Nat.le_of_ble_eq_true rfl⟩ ⟨Nat.le_trans (Nat.le_succ _) hc1, Nat.le_trans (Nat.le_add_right _ 5) hc2⟩ (Nat.le_of_ble_eq_true rfl) dL_law_444 rfl (fun x1 J1 hq => ?_)
    obtain ⟨⟨jv, hjv, hx⟩, hJ⟩ := hq
    rw [hx, hJ]
    refine j_sipush (pc' := 450) (v := nI 150) dL_law_447 rfl rfl ?_
    refine j_isub (pc' := 451) dL_law_450 rfl ?_
    refine j_cViR (pc' := 454) m_L_28 (p_sv hD hV hN (by omega) hP (Nat.mod_lt _ hn0) (okV_sub (by omega) (by omega))) Kd (by decide) rfl rfl rfl ⟨Nat.le_of_ble_eq_true rfl, Nat.le_of_ble_eq_true rfl⟩ ⟨Nat.le_trans (Nat.le_succ _) hc1, Nat.le_trans (Nat.le_add_right _ 5) hc2⟩ (Nat.le_of_ble_eq_true rfl) dL_law_451 rfl (fun x1 R1 I1 hq => ?_)
    obtain ⟨hx, hZ⟩ := hq
    rw [hx]
    refine j_iload (pc' := 456) dL_law_454 rfl rfl ?_
    refine j_icmpF_ne (pc' := 459) (tgt := 463) (rfl) dL_law_456 (by decide) rfl ?_
    refine j_iconst (pc' := 460) (v := nI 1) dL_law_459 rfl rfl ?_
    refine j_goto (tgt := 464) dL_law_460 (by decide) ?_
    refine j_istore (pc' := 466) (lv' := [_, _, _, _, _, _, _, _, _, _, _]) dL_law_464 rfl (by decide) rfl ?_
    obtain ⟨v, p, q, S, N, hD, hV, hN, hP⟩ := hZ
    refine j_iincN (pc' := 469) (lv' := [_, _, _, _, _, _, _, _, _, _, _]) dL_law_466 rfl rfl (by decide) rfl ?_
    refine j_goto (tgt := 397) dL_law_469 (by decide) ?_
    refine j_iload (pc' := 399) dL_law_397 rfl rfl ?_
    refine j_iconst (pc' := 400) (v := nI 3) dL_law_399 rfl rfl ?_
    refine j_icmpT_ge (tgt := 472) (by decide) dL_law_400 (by decide) ?_
    refine j_iload (pc' := 474) dL_law_472 rfl rfl ?_
    refine j_ifF_eq (pc' := 477) (tgt := 500) (by decide) dL_law_474 (by decide) rfl ?_
    refine j_aload_n (pc' := 478) dL_law_477 rfl rfl ?_
    refine j_iload_n (pc' := 479) dL_law_478 rfl rfl ?_
    refine j_iconst (pc' := 480) (v := nI 1) dL_law_479 rfl rfl ?_
    refine j_iload (pc' := 482) dL_law_480 rfl rfl ?_
    refine j_bipush (pc' := 484) (v := nI 20) dL_law_482 rfl rfl ?_
    refine j_ishr (pc' := 485) dL_law_484 rfl ?_
    refine j_iconst (pc' := 486) (v := nI 4) dL_law_485 rfl rfl ?_
    refine j_cSi (pc' := 489) m_L_102 (c_L_up (by omega) (by omega)) rfl rfl ⟨Nat.le_of_ble_eq_true rfl, Nat.le_of_ble_eq_true rfl⟩ ⟨Nat.le_trans (Nat.le_succ _) hc1, Nat.le_trans (Nat.le_add_right _ 5) hc2⟩ (Nat.le_of_ble_eq_true rfl) dL_law_486 rfl (fun x1 J1 hq => ?_)
    obtain ⟨⟨jt, hjt, hx⟩, hJ⟩ := hq
    rw [hx, hJ]
    refine j_iaddN' (pc' := 490) (by with_reducible rfl) (by with_reducible rfl) dL_law_489 rfl ?_
    refine j_cSiR (pc' := 493) m_L_109 (c_L_ticks (m := 1 + jt) hD hV hN (by omega) hP (by omega) (by omega) (by omega)) rfl rfl ⟨Nat.le_of_ble_eq_true rfl, Nat.le_of_ble_eq_true rfl⟩ ⟨Nat.le_trans (Nat.le_succ _) hc1, Nat.le_trans (Nat.le_add_right _ 5) hc2⟩ (Nat.le_of_ble_eq_true rfl) dL_law_490 rfl (fun x1 R1 I1 hq => ?_)
    obtain ⟨hx, hZ⟩ := hq
    rw [hx]
    refine j_ifF_eq (pc' := 496) (tgt := 500) (by decide) dL_law_493 (by decide) rfl ?_
    refine j_iconst (pc' := 497) (v := nI 1) dL_law_496 rfl rfl ?_
    refine j_goto (tgt := 501) dL_law_497 (by decide) ?_
    refine j_istore (pc' := 503) (lv' := [_, _, _, _, _, _, _, _, _, _, _]) dL_law_501 rfl (by decide) rfl ?_
    refine j_goto (tgt := 724) dL_law_503 (by decide) ?_
    exact law_tail hc1 hc2 hL5 hnn hn0 hB hda kk (by omega) (by omega) hZ
