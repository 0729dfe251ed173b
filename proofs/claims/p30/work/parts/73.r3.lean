set_option maxRecDepth 100000 in
set_option maxHeartbeats 4000000 in
theorem c_L_shelves {E : jx_E} {l : Launch} {n : Nat} {kd : jx_K} {R : jx_R} {I : jx_I} {d : Nat} {v p : Nat → Int32} {q B k T S N : Nat} {i y : Nat} (hD : DK kd R I d v p q B) (hV : VI v k T S N) (hN : N ≤ B) (hB : B + 4000000 < 2147483000) (hP : PI v k T) (hi : i < k) (h1 : 1 ≤ y) (h2 : y ≤ 1000) : jx_CiR E l yL_shelves cL_shelves 5 (some .boolean) 7 n kd R I [.ref d, .int (nI i), .int (nI y)] (fun r R' I' => r = nI 1 ∧ LZ kd R' I' d k T (B + 200000)) := by
  have h16 := hV.k16
  have Kd := hD.k5
  have hx2 := (hP.1 i hi).2
  have hsub : ¬ v (176 + 56 * i + 13) ≤ 0 → (-20001 : Int32) < v (176 + 56 * i + 13) - v 1 := by
    intro c
    rcases hx2.2 with e | ⟨u, hu, hu2, e⟩
    · exact absurd (by rw [e]; decide) c
    · rw [e, hV.t, pk_sub (by omega)]
      exact ie_n (by omega)
  refine jx_CtR.ofJ RL [some (.ref d), some (.int (nI i)), some (.int (nI y)), none, none] (by decide) rfl rfl (Nat.le_of_ble_eq_true rfl) rfl ?_
  refine j_aload_n (pc' := 1) dL_shelves_0 rfl rfl ?_
  refine j_iconst (pc' := 2) (v := nI 0) dL_shelves_1 rfl rfl ?_
  refine j_cVi (pc' := 5) m_L_44 (p_plant hD hV (by omega) (by omega) (a := v 1) (fPl_0)) Kd (by decide) rfl rfl rfl ⟨Nat.le_of_ble_eq_true rfl, Nat.le_of_ble_eq_true rfl⟩ ⟨Nat.le_of_ble_eq_true rfl, Nat.le_of_ble_eq_true rfl⟩ (Nat.le_of_ble_eq_true rfl) dL_shelves_2 rfl (fun x1 J1 hq => ?_)
  obtain ⟨hx, hI⟩ := hq
  rw [hx, hI]
  refine j_istore_n (pc' := 6) (lv' := [_, _, _, _, _]) dL_shelves_5 rfl (by decide) rfl ?_
  refine j_aload_n (pc' := 7) dL_shelves_6 rfl rfl ?_
  refine j_iload_n (pc' := 8) dL_shelves_7 rfl rfl ?_
  refine j_bipush (pc' := 10) (v := nI 13) dL_shelves_8 rfl rfl ?_
  refine j_cVi (pc' := 13) m_L_31 (p_point hD hV (by omega) (by omega) (a := v (176 + 56 * i + 13)) ((fPt_w hV.z h16 hi (show 13 < 15 from by omega)))) Kd (by decide) rfl rfl rfl ⟨Nat.le_of_ble_eq_true rfl, Nat.le_of_ble_eq_true rfl⟩ ⟨Nat.le_of_ble_eq_true rfl, Nat.le_of_ble_eq_true rfl⟩ (Nat.le_of_ble_eq_true rfl) dL_shelves_10 rfl (fun x1 J1 hq => ?_)
  obtain ⟨hx, hI⟩ := hq
  rw [hx, hI]
  refine j_istore (pc' := 15) (lv' := [_, _, _, _, _]) dL_shelves_13 rfl (by decide) rfl ?_
  refine j_aload_n (pc' := 16) dL_shelves_15 rfl rfl ?_
  refine j_iload_n (pc' := 17) dL_shelves_16 rfl rfl ?_
  refine j_iconst (pc' := 18) (v := nI 5) dL_shelves_17 rfl rfl ?_
  refine j_cVi (pc' := 21) m_L_31 (p_point hD hV (by omega) (by omega) (a := v (176 + 56 * i + 5)) ((fPt_w hV.z h16 hi (show 5 < 15 from by omega)))) Kd (by decide) rfl rfl rfl ⟨Nat.le_of_ble_eq_true rfl, Nat.le_of_ble_eq_true rfl⟩ ⟨Nat.le_of_ble_eq_true rfl, Nat.le_of_ble_eq_true rfl⟩ (Nat.le_of_ble_eq_true rfl) dL_shelves_18 rfl (fun x1 J1 hq => ?_)
  obtain ⟨hx, hI⟩ := hq
  rw [hx, hI]
  refine j_iconst (pc' := 22) (v := nI 1) dL_shelves_21 rfl rfl ?_
  refine j_icmp_ne (pc' := 25) (tgt := 54) dL_shelves_22 rfl (by decide) (fun c22 => ?_) (fun c22 => ?_)
  ·
    refine j_iload (pc' := 56) dL_shelves_54 rfl rfl ?_
    refine jx_cut (B := jx_J E l cL_shelves 5 (some .boolean) RL false (jx_rm 7) 0 0 (jx_QR n kd (fun r R' I' => r = nI 1 ∧ LZ kd R' I' d k T (B + 200000))) 0 0 n kd R I 115 [some (.ref d), some (.int (nI i)), some (.int (nI y)), some (.int (v 1)), some (.int (v (176 + 56 * i + 13)))] []) (fun kk => ?_) ?_
    ·
      refine j_if_le (pc' := 59) (tgt := 115) dL_shelves_56 rfl (by decide) (fun c56 => ?_) (fun c56 => ?_)
      ·
        exact kk
      ·
        refine j_iload_n (pc' := 60) dL_shelves_59 rfl rfl ?_
        refine j_iconst (pc' := 61) (v := nI 1) dL_shelves_60 rfl rfl ?_
        refine j_iand (pc' := 62) dL_shelves_61 rfl ?_
        refine j_iconst (pc' := 63) (v := nI 1) dL_shelves_62 rfl rfl ?_
        refine j_icmp_ne (pc' := 66) (tgt := 115) dL_shelves_63 rfl (by decide) (fun c63 => ?_) (fun c63 => ?_)
        ·
          exact kk
        ·
          refine j_aload_n (pc' := 67) dL_shelves_66 rfl rfl ?_
          refine j_iload_n (pc' := 68) dL_shelves_67 rfl rfl ?_
          refine j_cViR (pc' := 71) m_L_53 (p_unshelves hD hV (by omega) (by omega) (a := v (176 + 56 * i + 13) - v 1) (w := sHap (upd v (176 + 56 * i + 13) (nI 0)) (nI 5) (nI i)) (congrArg Prod.fst (fUns_s hV.z h16 hi (fun z => c56 (by rw [z]; decide)))) (hsub c56) (congrArg Prod.snd (fUns_s hV.z h16 hi (fun z => c56 (by rw [z]; decide))))) Kd (by decide) rfl rfl rfl ⟨Nat.le_of_ble_eq_true rfl, Nat.le_of_ble_eq_true rfl⟩ ⟨Nat.le_of_ble_eq_true rfl, Nat.le_of_ble_eq_true rfl⟩ (Nat.le_of_ble_eq_true rfl) dL_shelves_68 rfl (fun x1 R1 I1 hq => ?_)
          obtain ⟨hx, hD⟩ := hq
          rw [hx]
          obtain ⟨hV1, hN1, _⟩ := hD.to9 (N := N + 1) ((sHap_o (by omega)).trans ((pk_un (by omega)).trans hV.z)) h16 ((sHap_o (by omega)).trans ((pk_un (by omega)).trans hV.t)) hV.tl ((sHap_o (by omega)).trans ((pk_un (by omega)).trans hV.s)) hV.sl (sHap_9 ((pk_un (by omega)).trans hV.n) (by omega)) (by omega) (by omega)
          refine j_iload (pc' := 73) dL_shelves_71 rfl rfl ?_
          refine j_iload_n (pc' := 74) dL_shelves_73 rfl rfl ?_
          refine j_isub (pc' := 75) dL_shelves_74 rfl ?_
          refine j_icmpF_ne (pc' := 78) (tgt := 113) (rfl) dL_shelves_75 (by decide) rfl ?_
          refine j_aload_n (pc' := 79) dL_shelves_78 rfl rfl ?_
          refine j_iload_n (pc' := 80) dL_shelves_79 rfl rfl ?_
          refine j_bipush (pc' := 82) (v := nI 13) dL_shelves_80 rfl rfl ?_
          refine j_cVi (pc' := 85) m_L_31 (p_point hD hV1 (by omega) (by omega) (a := nI 0) ((fPt_w hV1.z h16 hi (show 13 < 15 from by omega)).trans ((sHap_o (by omega)).trans pk_us))) Kd (by decide) rfl rfl rfl ⟨Nat.le_of_ble_eq_true rfl, Nat.le_of_ble_eq_true rfl⟩ ⟨Nat.le_of_ble_eq_true rfl, Nat.le_of_ble_eq_true rfl⟩ (Nat.le_of_ble_eq_true rfl) dL_shelves_82 rfl (fun x1 J1 hq => ?_)
          obtain ⟨hx, hI⟩ := hq
          rw [hx, hI]
          refine j_ifF_ne (pc' := 88) (tgt := 113) (by decide) dL_shelves_85 (by decide) rfl ?_
          refine j_aload_n (pc' := 89) dL_shelves_88 rfl rfl ?_
          refine j_iconst (pc' := 90) (v := nI 0) dL_shelves_89 rfl rfl ?_
          refine j_iconst (pc' := 91) (v := nI 1) dL_shelves_90 rfl rfl ?_
          refine j_cVi (pc' := 94) m_L_62 (p_event hD hV1 (by omega) (by omega) (a := nI 5) ((ev_hap ((pk_un (by omega)).trans hV.n) (by omega) (by omega)).trans rfl)) Kd (by decide) rfl rfl rfl ⟨Nat.le_of_ble_eq_true rfl, Nat.le_of_ble_eq_true rfl⟩ ⟨Nat.le_of_ble_eq_true rfl, Nat.le_of_ble_eq_true rfl⟩ (Nat.le_of_ble_eq_true rfl) dL_shelves_91 rfl (fun x1 J1 hq => ?_)
          obtain ⟨hx, hI⟩ := hq
          rw [hx, hI]
          refine j_iconst (pc' := 95) (v := nI 5) dL_shelves_94 rfl rfl ?_
          refine j_icmpF_ne (pc' := 98) (tgt := 113) (by decide) dL_shelves_95 (by decide) rfl ?_
          refine j_aload_n (pc' := 99) dL_shelves_98 rfl rfl ?_
          refine j_iload_n (pc' := 100) dL_shelves_99 rfl rfl ?_
          refine j_cViR (pc' := 103) m_L_53 (p_unshelvee hD hV1 (by omega) (by omega) (a := (-20002)) (congrArg Prod.fst (fUns_0 hV1.z h16 hi ((sHap_o (by omega)).trans pk_us))) (by decide) (congrArg Prod.snd (fUns_0 hV1.z h16 hi ((sHap_o (by omega)).trans pk_us)))) Kd (by decide) rfl rfl rfl ⟨Nat.le_of_ble_eq_true rfl, Nat.le_of_ble_eq_true rfl⟩ ⟨Nat.le_of_ble_eq_true rfl, Nat.le_of_ble_eq_true rfl⟩ (Nat.le_of_ble_eq_true rfl) dL_shelves_100 rfl (fun x1 R1 I1 hq => ?_)
          obtain ⟨hx, hD⟩ := hq
          rw [hx]
          refine j_sipush (pc' := 106) (v := (-20002)) dL_shelves_103 rfl rfl ?_
          refine j_icmpF_ne (pc' := 109) (tgt := 113) (by decide) dL_shelves_106 (by decide) rfl ?_
          refine j_iconst (pc' := 110) (v := nI 1) dL_shelves_109 rfl rfl ?_
          refine j_goto (tgt := 114) dL_shelves_110 (by decide) ?_
          refine j_retiR dL_shelves_114 rfl (by first | rfl | exact bi_n _) ?_
          exact ⟨rfl, _, _, _, S, N + 1, hD.mono (by omega), hV1, by omega, by have := hP.uns h16 hi; rw [fUns_s hV.z h16 hi (fun z => c56 (by rw [z]; decide))] at this; exact this⟩
    ·
      refine j_aload_n (pc' := 116) dL_shelves_115 rfl rfl ?_
      refine j_iload_n (pc' := 117) dL_shelves_116 rfl rfl ?_
      refine j_iload_n (pc' := 118) dL_shelves_117 rfl rfl ?_
      refine j_cViR (pc' := 121) m_L_50 (p_shelves hD hV (by omega) (by omega) (a := v 1 + nI y) (w := sHap (upd v (176 + 56 * i + 13) (v 1 + nI y)) (nI 4) (nI i)) (congrArg Prod.fst (fShv_s hV.z h16 hi h1 h2 c22)) (by rw [hV.t, nI_add]; exact ie_n (by have := hV.tl; omega)) (congrArg Prod.snd (fShv_s hV.z h16 hi h1 h2 c22))) Kd (by decide) rfl rfl rfl ⟨Nat.le_of_ble_eq_true rfl, Nat.le_of_ble_eq_true rfl⟩ ⟨Nat.le_of_ble_eq_true rfl, Nat.le_of_ble_eq_true rfl⟩ (Nat.le_of_ble_eq_true rfl) dL_shelves_118 rfl (fun x1 R1 I1 hq => ?_)
      obtain ⟨hx, hD⟩ := hq
      rw [hx]
      obtain ⟨hV1, hN1, _⟩ := hD.to9 (N := N + 1) ((sHap_o (by omega)).trans ((pk_un (by omega)).trans hV.z)) h16 ((sHap_o (by omega)).trans ((pk_un (by omega)).trans hV.t)) hV.tl ((sHap_o (by omega)).trans ((pk_un (by omega)).trans hV.s)) hV.sl (sHap_9 ((pk_un (by omega)).trans hV.n) (by omega)) (by omega) (by omega)
      refine j_iload_n (pc' := 122) dL_shelves_121 rfl rfl ?_
      refine j_iload_n (pc' := 123) dL_shelves_122 rfl rfl ?_
      refine j_iadd (pc' := 124) dL_shelves_123 rfl ?_
      refine j_icmpF_ne (pc' := 127) (tgt := 164) (rfl) dL_shelves_124 (by decide) rfl ?_
      refine j_aload_n (pc' := 128) dL_shelves_127 rfl rfl ?_
      refine j_iload_n (pc' := 129) dL_shelves_128 rfl rfl ?_
      refine j_bipush (pc' := 131) (v := nI 13) dL_shelves_129 rfl rfl ?_
      refine j_cVi (pc' := 134) m_L_31 (p_point hD hV1 (by omega) (by omega) (a := v 1 + nI y) ((fPt_w hV1.z h16 hi (show 13 < 15 from by omega)).trans ((sHap_o (by omega)).trans pk_us))) Kd (by decide) rfl rfl rfl ⟨Nat.le_of_ble_eq_true rfl, Nat.le_of_ble_eq_true rfl⟩ ⟨Nat.le_of_ble_eq_true rfl, Nat.le_of_ble_eq_true rfl⟩ (Nat.le_of_ble_eq_true rfl) dL_shelves_131 rfl (fun x1 J1 hq => ?_)
      obtain ⟨hx, hI⟩ := hq
      rw [hx, hI]
      refine j_iload_n (pc' := 135) dL_shelves_134 rfl rfl ?_
      refine j_iload_n (pc' := 136) dL_shelves_135 rfl rfl ?_
      refine j_iadd (pc' := 137) dL_shelves_136 rfl ?_
      refine j_icmpF_ne (pc' := 140) (tgt := 164) (rfl) dL_shelves_137 (by decide) rfl ?_
      refine j_aload_n (pc' := 141) dL_shelves_140 rfl rfl ?_
      refine j_iconst (pc' := 142) (v := nI 0) dL_shelves_141 rfl rfl ?_
      refine j_iconst (pc' := 143) (v := nI 1) dL_shelves_142 rfl rfl ?_
      refine j_cVi (pc' := 146) m_L_62 (p_event hD hV1 (by omega) (by omega) (a := nI 4) ((ev_hap ((pk_un (by omega)).trans hV.n) (by omega) (by omega)).trans rfl)) Kd (by decide) rfl rfl rfl ⟨Nat.le_of_ble_eq_true rfl, Nat.le_of_ble_eq_true rfl⟩ ⟨Nat.le_of_ble_eq_true rfl, Nat.le_of_ble_eq_true rfl⟩ (Nat.le_of_ble_eq_true rfl) dL_shelves_143 rfl (fun x1 J1 hq => ?_)
      obtain ⟨hx, hI⟩ := hq
      rw [hx, hI]
      refine j_iconst (pc' := 147) (v := nI 4) dL_shelves_146 rfl rfl ?_
      refine j_icmpF_ne (pc' := 150) (tgt := 164) (by decide) dL_shelves_147 (by decide) rfl ?_
      refine j_aload_n (pc' := 151) dL_shelves_150 rfl rfl ?_
      refine j_iconst (pc' := 152) (v := nI 0) dL_shelves_151 rfl rfl ?_
      refine j_iconst (pc' := 153) (v := nI 2) dL_shelves_152 rfl rfl ?_
      refine j_cVi (pc' := 156) m_L_62 (p_event hD hV1 (by omega) (by omega) (a := nI i) ((ev_hap ((pk_un (by omega)).trans hV.n) (by omega) (by omega)).trans rfl)) Kd (by decide) rfl rfl rfl ⟨Nat.le_of_ble_eq_true rfl, Nat.le_of_ble_eq_true rfl⟩ ⟨Nat.le_of_ble_eq_true rfl, Nat.le_of_ble_eq_true rfl⟩ (Nat.le_of_ble_eq_true rfl) dL_shelves_153 rfl (fun x1 J1 hq => ?_)
      obtain ⟨hx, hI⟩ := hq
      rw [hx, hI]
      refine j_iload_n (pc' := 157) dL_shelves_156 rfl rfl ?_
      refine j_icmpF_ne (pc' := 160) (tgt := 164) (rfl) dL_shelves_157 (by decide) rfl ?_
      refine j_iconst (pc' := 161) (v := nI 1) dL_shelves_160 rfl rfl ?_
      refine j_goto (tgt := 165) dL_shelves_161 (by decide) ?_
      refine j_retiR dL_shelves_165 rfl (by first | rfl | exact bi_n _) ?_
      exact ⟨rfl, _, _, _, S, N + 1, hD.mono (by omega), hV1, by omega, by have := hP.shv hV.z hV.t hV.tl h16 hi h1 h2; rw [fShv_s hV.z h16 hi h1 h2 c22] at this; exact this⟩
  ·
    refine j_aload_n (pc' := 26) dL_shelves_25 rfl rfl ?_
    refine j_iload_n (pc' := 27) dL_shelves_26 rfl rfl ?_
    refine j_iload_n (pc' := 28) dL_shelves_27 rfl rfl ?_
    refine j_cViR (pc' := 31) m_L_50 (p_shelvee hD hV (by omega) (by omega) (a := (-20002)) (congrArg Prod.fst (fShv_p hV.z h16 hi h1 h2 c22)) (by decide) (congrArg Prod.snd (fShv_p hV.z h16 hi h1 h2 c22))) Kd (by decide) rfl rfl rfl ⟨Nat.le_of_ble_eq_true rfl, Nat.le_of_ble_eq_true rfl⟩ ⟨Nat.le_of_ble_eq_true rfl, Nat.le_of_ble_eq_true rfl⟩ (Nat.le_of_ble_eq_true rfl) dL_shelves_28 rfl (fun x1 R1 I1 hq => ?_)
    obtain ⟨hx, hD⟩ := hq
    rw [hx]
    refine j_sipush (pc' := 34) (v := (-20002)) dL_shelves_31 rfl rfl ?_
    refine j_icmpF_ne (pc' := 37) (tgt := 52) (by decide) dL_shelves_34 (by decide) rfl ?_
    refine j_aload_n (pc' := 38) dL_shelves_37 rfl rfl ?_
    refine j_iload_n (pc' := 39) dL_shelves_38 rfl rfl ?_
    refine j_cViR (pc' := 42) m_L_53 (p_unshelvee hD hV (by omega) (by omega) (a := (-20002)) (congrArg Prod.fst (fUns_0 hV.z h16 hi (hx2.1 c22))) (by decide) (congrArg Prod.snd (fUns_0 hV.z h16 hi (hx2.1 c22)))) Kd (by decide) rfl rfl rfl ⟨Nat.le_of_ble_eq_true rfl, Nat.le_of_ble_eq_true rfl⟩ ⟨Nat.le_of_ble_eq_true rfl, Nat.le_of_ble_eq_true rfl⟩ (Nat.le_of_ble_eq_true rfl) dL_shelves_39 rfl (fun x1 R1 I1 hq => ?_)
    obtain ⟨hx, hD⟩ := hq
    rw [hx]
    refine j_sipush (pc' := 45) (v := (-20002)) dL_shelves_42 rfl rfl ?_
    refine j_icmpF_ne (pc' := 48) (tgt := 52) (by decide) dL_shelves_45 (by decide) rfl ?_
    refine j_iconst (pc' := 49) (v := nI 1) dL_shelves_48 rfl rfl ?_
    refine j_goto (tgt := 53) dL_shelves_49 (by decide) ?_
    refine j_retiR dL_shelves_53 rfl (by first | rfl | exact bi_n _) ?_
    exact ⟨rfl, v, _, _, S, N, hD.mono (by omega), hV, by omega, hP⟩
