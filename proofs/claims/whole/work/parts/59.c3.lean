theorem u76_a {F : Nat → Int32} {x y : Int32} (h7 : F 7 = x) (h6 : F 6 = y) : upd (upd F 7 x) 6 y = F := by
  funext j
  unfold upd
  by_cases e6 : j = 6
  · subst e6; simp [h6]
  · by_cases e7 : j = 7
    · subst e7; simp [h7]
    · simp [e6, e7]
theorem u76_b {F : Nat → Int32} {x y z u : Int32} : upd (upd (upd (upd F 7 x) 6 y) 7 z) 6 u = upd (upd F 7 z) 6 u := by
  funext j
  unfold upd
  by_cases e6 : j = 6
  · subst e6; simp
  · by_cases e7 : j = 7
    · subst e7; simp
    · simp [e6, e7]
set_option maxRecDepth 100000 in
set_option maxHeartbeats 4000000 in
theorem lp_X3_readNumber {E : jx_E} {l : Launch} {n : Nat} {kd : jx_K} {R : jx_R} {I0 : jx_I} {s : Nat} {F t w a b : Nat → Int32} {L : Nat} (hs : sSc kd R s) (hL8 : L ≤ 80) : ∀ (z d : Nat) (x : Int32) (A : Nat) (F : Nat → Int32), z + d = 5 → F 4 = nI L → F 6 = nI A → F 7 = x → A ≤ L → jx_J E l cX3_readNumber 2 (some .boolean) RX3 false (jx_rm 1) 0 0 (jx_Q0 n kd R (jx_Pi (fun r I' => r = bi (nmB (nmF t L z d x A).1) ∧ I' = cI I0 s (upd (upd F 7 (nmF t L z d x A).2.1) 6 (nI (nmF t L z d x A).2.2)) t w a b))) 0 0 n kd R (cI I0 s F t w a b) 7 [some (.ref s), some (.int (nI d))] [] := by
  obtain ⟨K0, K1, K2, K3, K4, R0, R1, R2, R3⟩ := id hs
  intro z
  induction z with
  | zero =>
    intro d x A F hz hL hA0 h7 hA
    refine j_iload_n (pc' := 8) dX3_readNumber_7 rfl rfl ?_
    refine j_iconst (pc' := 9) (v := nI 5) dX3_readNumber_8 rfl rfl ?_
    first | refine j_icmp_geN' (tgt := 82) (pc' := 12) (by with_reducible rfl) (by with_reducible rfl) (by omega) (by omega) dX3_readNumber_9 rfl (by decide) (fun c9 => ?_) (fun c9 => ?_) | refine j_icmp_ge (tgt := 82) (pc' := 12) dX3_readNumber_9 rfl (by decide) (fun c9 => ?_) (fun c9 => ?_)
    ·
      refine j_iload_n (pc' := 83) dX3_readNumber_82 rfl rfl ?_
      first | refine j_if_leN' (tgt := 90) (pc' := 86) (by with_reducible rfl) (by omega) dX3_readNumber_83 rfl (by decide) (fun c83 => ?_) (fun c83 => ?_) | refine j_if_le (tgt := 90) (pc' := 86) dX3_readNumber_83 rfl (by decide) (fun c83 => ?_) (fun c83 => ?_)
      ·
        refine j_iconst (pc' := 91) (v := nI 0) dX3_readNumber_90 rfl rfl ?_
        refine j_reti dX3_readNumber_91 rfl (by first | rfl | exact bi_n _) ?_
        rw [nmF]
        refine ⟨?_, congrArg (fun G => cI I0 s G t w a b) (u76_a h7 hA0).symm⟩
        first | exact bi_T (decide_eq_true (by dsimp only; omega)) | exact bi_F (decide_eq_false (by dsimp only; omega))
      ·
        refine j_iconst (pc' := 87) (v := nI 1) dX3_readNumber_86 rfl rfl ?_
        refine j_goto (tgt := 91) dX3_readNumber_87 (by decide) ?_
        refine j_reti dX3_readNumber_91 rfl (by first | rfl | exact bi_n _) ?_
        rw [nmF]
        refine ⟨?_, congrArg (fun G => cI I0 s G t w a b) (u76_a h7 hA0).symm⟩
        first | exact bi_T (decide_eq_true (by dsimp only; omega)) | exact bi_F (decide_eq_false (by dsimp only; omega))
    ·
      exact absurd c9 (by omega)
  | succ z ih =>
    intro d x A F hz hL hA0 h7 hA
    refine j_iload_n (pc' := 8) dX3_readNumber_7 rfl rfl ?_
    refine j_iconst (pc' := 9) (v := nI 5) dX3_readNumber_8 rfl rfl ?_
    first | refine j_icmp_geN' (tgt := 82) (pc' := 12) (by with_reducible rfl) (by with_reducible rfl) (by omega) (by omega) dX3_readNumber_9 rfl (by decide) (fun c9 => ?_) (fun c9 => ?_) | refine j_icmp_ge (tgt := 82) (pc' := 12) dX3_readNumber_9 rfl (by decide) (fun c9 => ?_) (fun c9 => ?_)
    ·
      exact absurd c9 (by omega)
    ·
      refine j_aload_n (pc' := 13) dX3_readNumber_12 rfl rfl ?_
      refine j_getIv (pc' := 16) f_X3_29 (by assumption) (by first | (simp (disch := omega) only [jx_upS, jx_upK, jx_upA, cI_0, cI_1, cI_2, cI_3, cI_4, pk_us, pk_un, h7, hA0, hL]; rfl) | rfl) dX3_readNumber_13 rfl ?_
      refine j_aload_n (pc' := 17) dX3_readNumber_16 rfl rfl ?_
      refine j_getIv (pc' := 20) f_X3_25 (by assumption) (by first | (simp (disch := omega) only [jx_upS, jx_upK, jx_upA, cI_0, cI_1, cI_2, cI_3, cI_4, pk_us, pk_un, h7, hA0, hL]; rfl) | rfl) dX3_readNumber_17 rfl ?_
      first | refine j_icmp_geN' (tgt := 82) (pc' := 23) (by with_reducible rfl) (by with_reducible rfl) (by omega) (by omega) dX3_readNumber_20 rfl (by decide) (fun c20 => ?_) (fun c20 => ?_) | refine j_icmp_ge (tgt := 82) (pc' := 23) dX3_readNumber_20 rfl (by decide) (fun c20 => ?_) (fun c20 => ?_)
      ·
        refine j_iload_n (pc' := 83) dX3_readNumber_82 rfl rfl ?_
        first | refine j_if_leN' (tgt := 90) (pc' := 86) (by with_reducible rfl) (by omega) dX3_readNumber_83 rfl (by decide) (fun c83 => ?_) (fun c83 => ?_) | refine j_if_le (tgt := 90) (pc' := 86) dX3_readNumber_83 rfl (by decide) (fun c83 => ?_) (fun c83 => ?_)
        ·
          refine j_iconst (pc' := 91) (v := nI 0) dX3_readNumber_90 rfl rfl ?_
          refine j_reti dX3_readNumber_91 rfl (by first | rfl | exact bi_n _) ?_
          rw [nmF, if_neg (by rw [sg, if_neg (by omega)]; decide)]
          refine ⟨?_, congrArg (fun G => cI I0 s G t w a b) (u76_a h7 hA0).symm⟩
          first | exact bi_T (decide_eq_true (by dsimp only; omega)) | exact bi_F (decide_eq_false (by dsimp only; omega))
        ·
          refine j_iconst (pc' := 87) (v := nI 1) dX3_readNumber_86 rfl rfl ?_
          refine j_goto (tgt := 91) dX3_readNumber_87 (by decide) ?_
          refine j_reti dX3_readNumber_91 rfl (by first | rfl | exact bi_n _) ?_
          rw [nmF, if_neg (by rw [sg, if_neg (by omega)]; decide)]
          refine ⟨?_, congrArg (fun G => cI I0 s G t w a b) (u76_a h7 hA0).symm⟩
          first | exact bi_T (decide_eq_true (by dsimp only; omega)) | exact bi_F (decide_eq_false (by dsimp only; omega))
      ·
        refine j_aload_n (pc' := 24) dX3_readNumber_23 rfl rfl ?_
        refine j_getR (pc' := 27) f_X3_11 (by assumption) (by assumption) dX3_readNumber_24 rfl ?_
        refine j_aload_n (pc' := 28) dX3_readNumber_27 rfl rfl ?_
        refine j_getIv (pc' := 31) f_X3_29 (by assumption) (by first | (simp (disch := omega) only [jx_upS, jx_upK, jx_upA, cI_0, cI_1, cI_2, cI_3, cI_4, pk_us, pk_un, h7, hA0, hL]; rfl) | rfl) dX3_readNumber_28 rfl ?_
        refine j_caldv (pc' := 32) (by assumption) rfl (by omega) (by omega) (by first | (simp (disch := omega) only [jx_upS, jx_upK, jx_upA, cI_0, cI_1, cI_2, cI_3, cI_4, pk_us, pk_un, h7, hA0, hL]; rfl) | rfl) dX3_readNumber_31 rfl ?_
        refine j_bipush (pc' := 34) (v := nI 48) dX3_readNumber_32 rfl rfl ?_
        refine j_bipush (pc' := 36) (v := nI 57) dX3_readNumber_34 rfl rfl ?_
        refine j_cSNi (pc' := 39) m_X3_90 (c_X5_isIn _ _ _ _ _ _ _ _ _) rfl rfl ⟨Nat.le_of_ble_eq_true rfl, Nat.le_of_ble_eq_true rfl⟩ ⟨Nat.zero_le _, Nat.zero_le _⟩ (Nat.le_of_ble_eq_true rfl) dX3_readNumber_36 rfl (fun x1 I1 hq => ?_)
        obtain ⟨rfl, rfl⟩ := hq
        first | refine j_if_eqB' (tgt := 82) (pc' := 42) (by with_reducible rfl) dX3_readNumber_39 rfl (by decide) (fun c39 => ?_) (fun c39 => ?_) | refine j_if_eqN' (tgt := 82) (pc' := 42) (by with_reducible rfl) (by omega) dX3_readNumber_39 rfl (by decide) (fun c39 => ?_) (fun c39 => ?_) | refine j_if_eq (tgt := 82) (pc' := 42) dX3_readNumber_39 rfl (by decide) (fun c39 => ?_) (fun c39 => ?_)
        ·
          refine j_iload_n (pc' := 83) dX3_readNumber_82 rfl rfl ?_
          first | refine j_if_leN' (tgt := 90) (pc' := 86) (by with_reducible rfl) (by omega) dX3_readNumber_83 rfl (by decide) (fun c83 => ?_) (fun c83 => ?_) | refine j_if_le (tgt := 90) (pc' := 86) dX3_readNumber_83 rfl (by decide) (fun c83 => ?_) (fun c83 => ?_)
          ·
            refine j_iconst (pc' := 91) (v := nI 0) dX3_readNumber_90 rfl rfl ?_
            refine j_reti dX3_readNumber_91 rfl (by first | rfl | exact bi_n _) ?_
            rw [nmF, if_neg (by rw [sg, if_pos (by omega)]; exact fun z => absurd (z.symm.trans c39) (by decide))]
            refine ⟨?_, congrArg (fun G => cI I0 s G t w a b) (u76_a h7 hA0).symm⟩
            first | exact bi_T (decide_eq_true (by dsimp only; omega)) | exact bi_F (decide_eq_false (by dsimp only; omega))
          ·
            refine j_iconst (pc' := 87) (v := nI 1) dX3_readNumber_86 rfl rfl ?_
            refine j_goto (tgt := 91) dX3_readNumber_87 (by decide) ?_
            refine j_reti dX3_readNumber_91 rfl (by first | rfl | exact bi_n _) ?_
            rw [nmF, if_neg (by rw [sg, if_pos (by omega)]; exact fun z => absurd (z.symm.trans c39) (by decide))]
            refine ⟨?_, congrArg (fun G => cI I0 s G t w a b) (u76_a h7 hA0).symm⟩
            first | exact bi_T (decide_eq_true (by dsimp only; omega)) | exact bi_F (decide_eq_false (by dsimp only; omega))
        ·
          refine j_aload_n (pc' := 43) dX3_readNumber_42 rfl rfl ?_
          refine j_bipush (pc' := 45) (v := nI 10) dX3_readNumber_43 rfl rfl ?_
          refine j_aload_n (pc' := 46) dX3_readNumber_45 rfl rfl ?_
          refine j_getIv (pc' := 49) f_X3_51 (by assumption) (by first | (simp (disch := omega) only [jx_upS, jx_upK, jx_upA, cI_0, cI_1, cI_2, cI_3, cI_4, pk_us, pk_un, h7, hA0, hL]; rfl) | rfl) dX3_readNumber_46 rfl ?_
          refine j_imul (pc' := 50) dX3_readNumber_49 rfl ?_
          refine j_aload_n (pc' := 51) dX3_readNumber_50 rfl rfl ?_
          refine j_getR (pc' := 54) f_X3_11 (by assumption) (by assumption) dX3_readNumber_51 rfl ?_
          refine j_aload_n (pc' := 55) dX3_readNumber_54 rfl rfl ?_
          refine j_getIv (pc' := 58) f_X3_29 (by assumption) (by first | (simp (disch := omega) only [jx_upS, jx_upK, jx_upA, cI_0, cI_1, cI_2, cI_3, cI_4, pk_us, pk_un, h7, hA0, hL]; rfl) | rfl) dX3_readNumber_55 rfl ?_
          refine j_caldv (pc' := 59) (by assumption) rfl (by omega) (by omega) (by first | (simp (disch := omega) only [jx_upS, jx_upK, jx_upA, cI_0, cI_1, cI_2, cI_3, cI_4, pk_us, pk_un, h7, hA0, hL]; rfl) | rfl) dX3_readNumber_58 rfl ?_
          refine j_iadd (pc' := 60) dX3_readNumber_59 rfl ?_
          refine j_bipush (pc' := 62) (v := nI 48) dX3_readNumber_60 rfl rfl ?_
          refine j_isub (pc' := 63) dX3_readNumber_62 rfl ?_
          refine j_putI (pc' := 66) f_X3_51 (by assumption) rfl rfl dX3_readNumber_63 rfl ?_
          refine j_eqI cW_0 ?_
          refine j_aload_n (pc' := 67) dX3_readNumber_66 rfl rfl ?_
          refine j_dup (pc' := 68) dX3_readNumber_67 rfl rfl ?_
          refine j_getIv (pc' := 71) f_X3_29 (by assumption) (by first | (simp (disch := omega) only [jx_upS, jx_upK, jx_upA, cI_0, cI_1, cI_2, cI_3, cI_4, pk_us, pk_un, h7, hA0, hL]; rfl) | rfl) dX3_readNumber_68 rfl ?_
          refine j_iconst (pc' := 72) (v := nI 1) dX3_readNumber_71 rfl rfl ?_
          first | refine j_iaddN' (pc' := 73) (by with_reducible rfl) (by with_reducible rfl) dX3_readNumber_72 rfl ?_ | refine j_iadd (pc' := 73) dX3_readNumber_72 rfl ?_
          refine j_putI (pc' := 76) f_X3_29 (by assumption) rfl rfl dX3_readNumber_73 rfl ?_
          refine j_eqI cW_0 ?_
          first | refine j_iincN (pc' := 79) (lv' := [_, _]) dX3_readNumber_76 rfl rfl (by decide) rfl ?_ | refine j_iinc (pc' := 79) (lv' := [_, _]) dX3_readNumber_76 rfl rfl rfl (by decide) rfl ?_
          refine j_goto (tgt := 7) dX3_readNumber_79 (by decide) ?_
          have hsg : sg t L A = t A := by rw [sg, if_pos (by omega)]
          have hd : isD (sg t L A) = true := by rw [hsg]; exact c39
          rw [nmF, if_pos hd, hsg]
          refine ct_post_i (fun r I' hq => ?_) (ih (d + 1) (nI 10 * x + t A - nI 48) (A + 1) (upd (upd F 7 (nI 10 * x + t A - nI 48)) 6 (nI (A + 1))) (by omega) (by simp (disch := omega) only [pk_un]; exact hL) pk_us ((pk_un (by decide)).trans pk_us) (by omega))
          rw [u76_b] at hq
          exact hq
set_option maxRecDepth 100000 in
set_option maxHeartbeats 4000000 in
theorem c_X3_readNumber {E : jx_E} {l : Launch} {n : Nat} {kd : jx_K} {R : jx_R} {I0 : jx_I} {s : Nat} {F t w a b : Nat → Int32} {L A : Nat} (hs : sSc kd R s) (hL : F 4 = nI L) (hL8 : L ≤ 80) (hA0 : F 6 = nI A) (hA : A ≤ L) : jx_Ci E l yX3_readNumber cX3_readNumber 2 (some .boolean) 1 n kd R (cI I0 s F t w a b) [.ref s] (fun r I' => r = bi (nmB (nmF t L 5 0 (nI 0) A).1) ∧ I' = cI I0 s (upd (upd F 7 (nmF t L 5 0 (nI 0) A).2.1) 6 (nI (nmF t L 5 0 (nI 0) A).2.2)) t w a b) := by
  obtain ⟨K0, K1, K2, K3, K4, R0, R1, R2, R3⟩ := id hs
  refine jx_C0.ofJ RX3 [some (.ref s), none] (by decide) rfl rfl (Nat.le_of_ble_eq_true rfl) rfl ?_
  refine j_iconst (pc' := 1) (v := nI 0) dX3_readNumber_0 rfl rfl ?_
  refine j_istore_n (pc' := 2) (lv' := [_, _]) dX3_readNumber_1 rfl (by decide) rfl ?_
  refine j_aload_n (pc' := 3) dX3_readNumber_2 rfl rfl ?_
  refine j_iconst (pc' := 4) (v := nI 0) dX3_readNumber_3 rfl rfl ?_
  refine j_putI (pc' := 7) f_X3_51 (by assumption) rfl rfl dX3_readNumber_4 rfl ?_
  refine j_eqI cW_0 ?_
  refine ct_post_i (fun r I' hq => ?_) (lp_X3_readNumber (F := F) hs hL8 5 0 (nI 0) A (upd F 7 (nI 0)) rfl (by simp (disch := omega) only [pk_un]; exact hL) (by simp (disch := omega) only [pk_un]; exact hA0) pk_us hA)
  rw [show ∀ u v, upd (upd (upd F 7 (nI 0)) 7 u) 6 v = upd (upd F 7 u) 6 v from fun u v => by rw [upd_upd]] at hq
  exact hq

set_option maxRecDepth 100000 in
set_option maxHeartbeats 4000000 in
theorem c_X3_readSecond {E : jx_E} {l : Launch} {n : Nat} {kd : jx_K} {R : jx_R} {I0 : jx_I} {s : Nat} {F t w a b : Nat → Int32} {L A k : Nat} {ng : Bool} (hs : sSc kd R s) (hL : F 4 = nI L) (hL8 : L ≤ 80) (hA0 : F 6 = nI A) (hA : A ≤ L) (hk : k < 14) : jx_Ci E l yX3_readSecond cX3_readSecond 3 (some .boolean) 2 n kd R (cI I0 s F t w a b) [.ref s, .int (nI k), .int (bi ng)] (fun r I' => r = bi (nmB (nmF t L 5 0 (nI 0) A).1) ∧ I' = if nmB (nmF t L 5 0 (nI 0) A).1 = true then cI I0 s (upd (upd F 7 (nmF t L 5 0 (nI 0) A).2.1) 6 (nI (nmF t L 5 0 (nI 0) A).2.2)) t w a (upd b k (if ng = true then -(nmF t L 5 0 (nI 0) A).2.1 else (nmF t L 5 0 (nI 0) A).2.1)) else cI I0 s (upd (upd F 7 (nmF t L 5 0 (nI 0) A).2.1) 6 (nI (nmF t L 5 0 (nI 0) A).2.2)) t w a b) := by
  obtain ⟨K0, K1, K2, K3, K4, R0, R1, R2, R3⟩ := id hs
  refine jx_C0.ofJ RX3 [some (.ref s), some (.int (nI k)), some (.int (bi ng))] (by decide) rfl rfl (Nat.le_of_ble_eq_true rfl) rfl ?_
  refine j_aload_n (pc' := 1) dX3_readSecond_0 rfl rfl ?_
  refine j_cVi (pc' := 4) m_X3_47 (c_X3_readNumber hs hL hL8 hA0 hA) (by assumption) (by decide) rfl rfl rfl ⟨Nat.le_of_ble_eq_true rfl, Nat.le_of_ble_eq_true rfl⟩ ⟨Nat.zero_le _, Nat.zero_le _⟩ (Nat.le_of_ble_eq_true rfl) dX3_readSecond_1 rfl (fun x1 I1 hq => ?_)
  obtain ⟨rfl, rfl⟩ := hq
  first | refine j_if_neB' (tgt := 9) (pc' := 7) (by with_reducible rfl) dX3_readSecond_4 rfl (by decide) (fun c4 => ?_) (fun c4 => ?_) | refine j_if_neN' (tgt := 9) (pc' := 7) (by with_reducible rfl) (by omega) dX3_readSecond_4 rfl (by decide) (fun c4 => ?_) (fun c4 => ?_) | refine j_if_ne (tgt := 9) (pc' := 7) dX3_readSecond_4 rfl (by decide) (fun c4 => ?_) (fun c4 => ?_)
  ·
    refine j_aload_n (pc' := 10) dX3_readSecond_9 rfl rfl ?_
    refine j_getR (pc' := 13) f_X3_22 (by assumption) (by assumption) dX3_readSecond_10 rfl ?_
    refine j_iload_n (pc' := 14) dX3_readSecond_13 rfl rfl ?_
    refine j_iload_n (pc' := 15) dX3_readSecond_14 rfl rfl ?_
    first | refine j_if_eqB' (tgt := 26) (pc' := 18) (by with_reducible rfl) dX3_readSecond_15 rfl (by decide) (fun c15 => ?_) (fun c15 => ?_) | refine j_if_eqN' (tgt := 26) (pc' := 18) (by with_reducible rfl) (by omega) dX3_readSecond_15 rfl (by decide) (fun c15 => ?_) (fun c15 => ?_) | refine j_if_eq (tgt := 26) (pc' := 18) dX3_readSecond_15 rfl (by decide) (fun c15 => ?_) (fun c15 => ?_)
    ·
      refine j_aload_n (pc' := 27) dX3_readSecond_26 rfl rfl ?_
      refine j_getIv (pc' := 30) f_X3_51 (by assumption) (by first | (simp (disch := omega) only [jx_upS, jx_upK, jx_upA, cI_0, cI_1, cI_2, cI_3, cI_4, pk_us, pk_un]; rfl) | rfl) dX3_readSecond_27 rfl ?_
      refine j_iast (pc' := 31) (by assumption) rfl (by omega) (by omega) dX3_readSecond_30 rfl ?_
      first | refine j_eqI cW_2 ?_ | refine j_eqI cW_3 ?_ | refine j_eqI cW_4 ?_
      refine j_iconst (pc' := 32) (v := nI 1) dX3_readSecond_31 rfl rfl ?_
      refine j_reti dX3_readSecond_32 rfl (by first | rfl | exact bi_n _) ?_
      rw [c4, if_pos rfl, if_neg (by rw [c15]; decide)]
      exact ⟨rfl, rfl⟩
    ·
      skip
      refine j_aload_n (pc' := 19) dX3_readSecond_18 rfl rfl ?_
      refine j_getIv (pc' := 22) f_X3_51 (by assumption) (by first | (simp (disch := omega) only [jx_upS, jx_upK, jx_upA, cI_0, cI_1, cI_2, cI_3, cI_4, pk_us, pk_un]; rfl) | rfl) dX3_readSecond_19 rfl ?_
      refine j_ineg (pc' := 23) dX3_readSecond_22 rfl ?_
      refine j_goto (tgt := 30) dX3_readSecond_23 (by decide) ?_
      refine j_iast (pc' := 31) (by assumption) rfl (by omega) (by omega) dX3_readSecond_30 rfl ?_
      first | refine j_eqI cW_2 ?_ | refine j_eqI cW_3 ?_ | refine j_eqI cW_4 ?_
      refine j_iconst (pc' := 32) (v := nI 1) dX3_readSecond_31 rfl rfl ?_
      refine j_reti dX3_readSecond_32 rfl (by first | rfl | exact bi_n _) ?_
      rw [c4, if_pos rfl, if_pos c15]
      exact ⟨rfl, rfl⟩
  ·
    refine j_iconst (pc' := 8) (v := nI 0) dX3_readSecond_7 rfl rfl ?_
    refine j_reti dX3_readSecond_8 rfl (by first | rfl | exact bi_n _) ?_
    rw [c4]
    exact ⟨rfl, rfl⟩

def lcp (g : Nat → Int32) : List Int32 → Nat → Nat
  | [], _ => 0
  | x :: xs, j => if g j = x then lcp g xs (j + 1) + 1 else 0
def jx_wd (i : Nat) : List Int32 := jx_byt.getD i []
theorem jx_wdl : ∀ i, i < 5 → (jx_wd i).length = jx_ln i := by decide
theorem jx_chp : ∀ i, i < 5 → ∀ j, j < jx_ln i → jx_ch i j ≠ -1 := by decide
theorem lcp_le {g : Nat → Int32} : ∀ (xs : List Int32) (j : Nat), lcp g xs j ≤ xs.length := by
  intro xs
  induction xs with
  | nil => intro j; exact Nat.le_refl _
  | cons x xs ih => intro j; rw [lcp, List.length_cons]; have := ih (j + 1); split <;> omega
theorem lcp_dr {g : Nat → Int32} {i m : Nat} (hi : i < 5) (hm : m < jx_ln i) : lcp g ((jx_wd i).drop m) m = if g m = jx_ch i m then lcp g ((jx_wd i).drop (m + 1)) (m + 1) + 1 else 0 := by
  have hl : m < (jx_wd i).length := by rw [jx_wdl i hi]; exact hm
  rw [List.drop_eq_getElem_cons hl, lcp]
  have e : jx_ch i m = (jx_wd i)[m] := by
    show (jx_wd i).getD m 0 = _
    rw [List.getD_eq_getElem?_getD, List.getElem?_eq_getElem hl, Option.getD_some]
  rw [e]
set_option maxRecDepth 100000 in
set_option maxHeartbeats 4000000 in
theorem lp_X3_matchedSigns {E : jx_E} {l : Launch} {n : Nat} {kd : jx_K} {R : jx_R} {I0 : jx_I} {s : Nat} {F t w a b : Nat → Int32} {L A i : Nat} (hs : sSc kd R s) (hL : F 4 = nI L) (hL8 : L ≤ 80) (hA0 : F 6 = nI A) (hA : A ≤ L) (hi : i < 5) : ∀ (z m : Nat), z + m = 8 → m ≤ jx_ln i → jx_J E l cX3_matchedSigns 3 (some .int) RX3 false (jx_rm 4) 0 0 (jx_Q0 n kd R (jx_Pi (fun r I' => r = nI (m + lcp (fun j => sg t L (A + j)) ((jx_wd i).drop m) m) ∧ I' = cI I0 s F t w a b))) 0 0 n kd R (cI I0 s F t w a b) 2 [some (.ref s), some (.ref (E.2.2.2.1 i)), some (.int (nI m))] [] := by
  obtain ⟨K0, K1, K2, K3, K4, R0, R1, R2, R3⟩ := id hs
  have h7 := jx_ln_7 i hi
  intro z
  induction z with
  | zero => intro m hz hm; omega
  | succ z ih =>
    intro m hz hm
    refine j_iload_n (pc' := 3) dX3_matchedSigns_2 rfl rfl ?_
    refine j_aload_n (pc' := 4) dX3_matchedSigns_3 rfl rfl ?_
    refine j_cStri (pc' := 7) hi m_X3_66 (c_J0_length_8abf5 hi) rfl rfl ⟨Nat.le_of_ble_eq_true rfl, Nat.le_of_ble_eq_true rfl⟩ ⟨Nat.zero_le _, Nat.zero_le _⟩ (Nat.le_of_ble_eq_true rfl) dX3_matchedSigns_4 rfl (fun x1 I1 hq => ?_)
    obtain ⟨rfl, rfl⟩ := hq
    first | refine j_icmp_geN' (tgt := 48) (pc' := 10) (by with_reducible rfl) (by with_reducible rfl) (by omega) (by omega) dX3_matchedSigns_7 rfl (by decide) (fun c7 => ?_) (fun c7 => ?_) | refine j_icmp_ge (tgt := 48) (pc' := 10) dX3_matchedSigns_7 rfl (by decide) (fun c7 => ?_) (fun c7 => ?_)
    ·
      refine j_iload_n (pc' := 49) dX3_matchedSigns_48 rfl rfl ?_
      refine j_reti dX3_matchedSigns_49 rfl (by first | rfl | exact bi_n _) ?_
      have e : (jx_wd i).drop m = [] := List.drop_eq_nil_of_le (by rw [jx_wdl i hi]; omega)
      rw [e]
      exact ⟨rfl, rfl⟩
    ·
      refine j_aload_n (pc' := 11) dX3_matchedSigns_10 rfl rfl ?_
      refine j_getIv (pc' := 14) f_X3_29 (by assumption) (by first | (simp (disch := omega) only [jx_upS, jx_upK, jx_upA, cI_0, cI_1, cI_2, cI_3, cI_4, pk_us, pk_un, hL, hA0]; rfl) | rfl) dX3_matchedSigns_11 rfl ?_
      refine j_iload_n (pc' := 15) dX3_matchedSigns_14 rfl rfl ?_
      first | refine j_iaddN' (pc' := 16) (by with_reducible rfl) (by with_reducible rfl) dX3_matchedSigns_15 rfl ?_ | refine j_iadd (pc' := 16) dX3_matchedSigns_15 rfl ?_
      refine j_aload_n (pc' := 17) dX3_matchedSigns_16 rfl rfl ?_
      refine j_getIv (pc' := 20) f_X3_25 (by assumption) (by first | (simp (disch := omega) only [jx_upS, jx_upK, jx_upA, cI_0, cI_1, cI_2, cI_3, cI_4, pk_us, pk_un, hL, hA0]; rfl) | rfl) dX3_matchedSigns_17 rfl ?_
      first | refine j_icmp_geN' (tgt := 48) (pc' := 23) (by with_reducible rfl) (by with_reducible rfl) (by omega) (by omega) dX3_matchedSigns_20 rfl (by decide) (fun c20 => ?_) (fun c20 => ?_) | refine j_icmp_ge (tgt := 48) (pc' := 23) dX3_matchedSigns_20 rfl (by decide) (fun c20 => ?_) (fun c20 => ?_)
      ·
        refine j_iload_n (pc' := 49) dX3_matchedSigns_48 rfl rfl ?_
        refine j_reti dX3_matchedSigns_49 rfl (by first | rfl | exact bi_n _) ?_
        have e0 : m + lcp (fun j => sg t L (A + j)) ((jx_wd i).drop m) m = m := by rw [lcp_dr hi (by omega), if_neg (by rw [sg, if_neg (by omega)]; exact fun z => jx_chp i hi m (by omega) z.symm)]; rfl
        exact ⟨by rw [e0], rfl⟩
      ·
        refine j_aload_n (pc' := 24) dX3_matchedSigns_23 rfl rfl ?_
        refine j_getR (pc' := 27) f_X3_11 (by assumption) (by assumption) dX3_matchedSigns_24 rfl ?_
        refine j_aload_n (pc' := 28) dX3_matchedSigns_27 rfl rfl ?_
        refine j_getIv (pc' := 31) f_X3_29 (by assumption) (by first | (simp (disch := omega) only [jx_upS, jx_upK, jx_upA, cI_0, cI_1, cI_2, cI_3, cI_4, pk_us, pk_un, hL, hA0]; rfl) | rfl) dX3_matchedSigns_28 rfl ?_
        refine j_iload_n (pc' := 32) dX3_matchedSigns_31 rfl rfl ?_
        first | refine j_iaddN' (pc' := 33) (by with_reducible rfl) (by with_reducible rfl) dX3_matchedSigns_32 rfl ?_ | refine j_iadd (pc' := 33) dX3_matchedSigns_32 rfl ?_
        refine j_caldv (pc' := 34) (by assumption) rfl (by omega) (by omega) (by first | (simp (disch := omega) only [jx_upS, jx_upK, jx_upA, cI_0, cI_1, cI_2, cI_3, cI_4, pk_us, pk_un, hL, hA0]; rfl) | rfl) dX3_matchedSigns_33 rfl ?_
        refine j_aload_n (pc' := 35) dX3_matchedSigns_34 rfl rfl ?_
        refine j_iload_n (pc' := 36) dX3_matchedSigns_35 rfl rfl ?_
        refine j_cStri (pc' := 39) hi m_X3_76 (c_J0_charAt_5068e hi (by omega)) rfl rfl ⟨Nat.le_of_ble_eq_true rfl, Nat.le_of_ble_eq_true rfl⟩ ⟨Nat.zero_le _, Nat.zero_le _⟩ (Nat.le_of_ble_eq_true rfl) dX3_matchedSigns_36 rfl (fun x1 I1 hq => ?_)
        obtain ⟨rfl, rfl⟩ := hq
        first | refine j_icmp_neN' (tgt := 48) (pc' := 42) (by with_reducible rfl) (by with_reducible rfl) (by omega) (by omega) dX3_matchedSigns_39 rfl (by decide) (fun c39 => ?_) (fun c39 => ?_) | refine j_icmp_ne (tgt := 48) (pc' := 42) dX3_matchedSigns_39 rfl (by decide) (fun c39 => ?_) (fun c39 => ?_)
        ·
          refine j_iload_n (pc' := 49) dX3_matchedSigns_48 rfl rfl ?_
          refine j_reti dX3_matchedSigns_49 rfl (by first | rfl | exact bi_n _) ?_
          have e0 : m + lcp (fun j => sg t L (A + j)) ((jx_wd i).drop m) m = m := by rw [lcp_dr hi (by omega), if_neg (by rw [sg, if_pos (by omega)]; exact c39)]; rfl
          exact ⟨by rw [e0], rfl⟩
        ·
          first | refine j_iincN (pc' := 45) (lv' := [_, _, _]) dX3_matchedSigns_42 rfl rfl (by decide) rfl ?_ | refine j_iinc (pc' := 45) (lv' := [_, _, _]) dX3_matchedSigns_42 rfl rfl rfl (by decide) rfl ?_
          refine j_goto (tgt := 2) dX3_matchedSigns_45 (by decide) ?_
          have e1 : m + lcp (fun j => sg t L (A + j)) ((jx_wd i).drop m) m = (m + 1) + lcp (fun j => sg t L (A + j)) ((jx_wd i).drop (m + 1)) (m + 1) := by
            rw [lcp_dr hi (by omega), if_pos (by rw [sg, if_pos (by omega)]; exact c39)]; omega
          rw [e1]
          exact ih (m + 1) (by omega) (by omega)
set_option maxRecDepth 100000 in
set_option maxHeartbeats 4000000 in
theorem c_X3_matchedSigns {E : jx_E} {l : Launch} {n : Nat} {kd : jx_K} {R : jx_R} {I0 : jx_I} {s : Nat} {F t w a b : Nat → Int32} {L A i : Nat} (hs : sSc kd R s) (hL : F 4 = nI L) (hL8 : L ≤ 80) (hA0 : F 6 = nI A) (hA : A ≤ L) (hi : i < 5) : jx_Ci E l yX3_matchedSigns cX3_matchedSigns 3 (some .int) 4 n kd R (cI I0 s F t w a b) [.ref s, .ref (E.2.2.2.1 i)] (fun r I' => r = nI (lcp (fun j => sg t L (A + j)) (jx_wd i) 0) ∧ I' = cI I0 s F t w a b) := by
  obtain ⟨K0, K1, K2, K3, K4, R0, R1, R2, R3⟩ := id hs
  refine jx_C0.ofJ RX3 [some (.ref s), some (.ref (E.2.2.2.1 i)), none] (by decide) rfl rfl (Nat.le_of_ble_eq_true rfl) rfl ?_
  refine j_iconst (pc' := 1) (v := nI 0) dX3_matchedSigns_0 rfl rfl ?_
  refine j_istore_n (pc' := 2) (lv' := [_, _, _]) dX3_matchedSigns_1 rfl (by decide) rfl ?_
  refine ct_post_i (fun r I' hq => ?_) (lp_X3_matchedSigns hs hL hL8 hA0 hA hi 8 0 rfl (Nat.zero_le _))
  rw [Nat.zero_add, List.drop_zero] at hq
  exact hq

