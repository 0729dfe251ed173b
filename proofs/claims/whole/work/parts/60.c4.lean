def rwL (g : Nat → Int32) : Nat → Nat → Nat → Int32 × Nat
  | 0, _, f => (-20009, f)
  | z + 1, w, f => if lcp g (jx_wd w) 0 = jx_ln w then (nI w, jx_ln w) else rwL g z (w + 1) (max f (lcp g (jx_wd w) 0))
theorem sq_lcp {t : Nat → Int32} {L A : Nat} : ∀ (xs : List Int32) (j : Nat), sq t L xs (A + j) = (decide (lcp (fun j => sg t L (A + j)) xs j = xs.length), A + j + lcp (fun j => sg t L (A + j)) xs j) := by
  intro xs
  induction xs with
  | nil => intro j; simp [sq, lcp]
  | cons x xs ih =>
    intro j
    rw [sq, lcp]
    by_cases h : sg t L (A + j) = x
    · rw [if_pos (by rw [tkB]; exact decide_eq_true h), tkA, if_pos (by rw [tkB]; exact decide_eq_true h), if_pos h, Nat.add_assoc, ih (j + 1), List.length_cons]
      refine Prod.ext ?_ ?_
      · show decide _ = decide _
        exact decide_eq_decide.mpr (by omega)
      · show _ + _ = _ + _
        omega
    · rw [if_neg (by rw [tkB]; exact fun z => h (of_decide_eq_true z)), tkA, if_neg (by rw [tkB]; exact fun z => h (of_decide_eq_true z)), if_neg h, List.length_cons]
      refine Prod.ext ?_ rfl
      show false = decide (0 = xs.length + 1)
      exact (decide_eq_false (by omega)).symm
theorem wd_0 : jx_wd 0 = [nI 115, nI 101, nI 116, nI 32] := by decide
theorem wd_1 : jx_wd 1 = [nI 97, nI 99, nI 107, nI 32] := by decide
theorem wd_2 : jx_wd 2 = [nI 115, nI 104, nI 101, nI 108, nI 118, nI 101, nI 32] := by decide
theorem wd_3 : jx_wd 3 = [nI 116, nI 105, nI 99, nI 107, nI 32] := by decide
theorem wd_4 : jx_wd 4 = [nI 115, nI 116, nI 97, nI 116, nI 101, nI 32] := by decide
theorem rw_5 {g : Nat → Int32} : rwL g 5 0 0 =
  if lcp g [nI 115, nI 101, nI 116, nI 32] 0 = 4 then (nI 0, 4) else
  if lcp g [nI 97, nI 99, nI 107, nI 32] 0 = 4 then (nI 1, 4) else
  if lcp g [nI 115, nI 104, nI 101, nI 108, nI 118, nI 101, nI 32] 0 = 7 then (nI 2, 7) else
  if lcp g [nI 116, nI 105, nI 99, nI 107, nI 32] 0 = 5 then (nI 3, 5) else
  if lcp g [nI 115, nI 116, nI 97, nI 116, nI 101, nI 32] 0 = 6 then (nI 4, 6) else
  (-20009, max (max (max (max (max 0 (lcp g [nI 115, nI 101, nI 116, nI 32] 0)) (lcp g [nI 97, nI 99, nI 107, nI 32] 0)) (lcp g [nI 115, nI 104, nI 101, nI 108, nI 118, nI 101, nI 32] 0)) (lcp g [nI 116, nI 105, nI 99, nI 107, nI 32] 0)) (lcp g [nI 115, nI 116, nI 97, nI 116, nI 101, nI 32] 0)) := by
  simp only [rwL, Nat.zero_add, Nat.reduceAdd, wd_0, wd_1, wd_2, wd_3, wd_4]
  rfl
theorem sq_0 {t : Nat → Int32} {L A : Nat} (xs : List Int32) : sq t L xs A = (decide (lcp (fun j => sg t L (A + j)) xs 0 = xs.length), A + lcp (fun j => sg t L (A + j)) xs 0) := sq_lcp xs 0
theorem rw_wd {t : Nat → Int32} {L A : Nat} : (rwL (fun j => sg t L (A + j)) 5 0 0).1 = (if (wdE t L (wdP t L A).2).1 = true then (wdP t L A).1 else -20009) ∧ A + (rwL (fun j => sg t L (A + j)) 5 0 0).2 = (wdE t L (wdP t L A).2).2 := by
  have n97_115 : (nI 97 = nI 115) = False := eq_false (by decide)
  have n97_116 : (nI 97 = nI 116) = False := eq_false (by decide)
  have n97_101 : (nI 97 = nI 101) = False := eq_false (by decide)
  have n97_104 : (nI 97 = nI 104) = False := eq_false (by decide)
  have n115_97 : (nI 115 = nI 97) = False := eq_false (by decide)
  have n115_116 : (nI 115 = nI 116) = False := eq_false (by decide)
  have n115_101 : (nI 115 = nI 101) = False := eq_false (by decide)
  have n115_104 : (nI 115 = nI 104) = False := eq_false (by decide)
  have n116_97 : (nI 116 = nI 97) = False := eq_false (by decide)
  have n116_115 : (nI 116 = nI 115) = False := eq_false (by decide)
  have n116_101 : (nI 116 = nI 101) = False := eq_false (by decide)
  have n116_104 : (nI 116 = nI 104) = False := eq_false (by decide)
  have n101_97 : (nI 101 = nI 97) = False := eq_false (by decide)
  have n101_115 : (nI 101 = nI 115) = False := eq_false (by decide)
  have n101_116 : (nI 101 = nI 116) = False := eq_false (by decide)
  have n101_104 : (nI 101 = nI 104) = False := eq_false (by decide)
  have n104_97 : (nI 104 = nI 97) = False := eq_false (by decide)
  have n104_115 : (nI 104 = nI 115) = False := eq_false (by decide)
  have n104_116 : (nI 104 = nI 116) = False := eq_false (by decide)
  have n104_101 : (nI 104 = nI 101) = False := eq_false (by decide)
  by_cases q0_97 : sg t L A = nI 97
  ·
    by_cases q1_99 : sg t L (A + 1) = nI 99
    ·
      by_cases q2_107 : sg t L (A + 2) = nI 107
      ·
        by_cases q3_32 : sg t L (A + 3) = nI 32
        ·
          simp [rw_5, lcp, wdP, wdE, sqk, sq, tkB, tkA, Nat.add_assoc, *]
        ·
          simp [rw_5, lcp, wdP, wdE, sqk, sq, tkB, tkA, Nat.add_assoc, *]
      ·
        simp [rw_5, lcp, wdP, wdE, sqk, sq, tkB, tkA, Nat.add_assoc, *]
    ·
      simp [rw_5, lcp, wdP, wdE, sqk, sq, tkB, tkA, Nat.add_assoc, *]
  by_cases q0_116 : sg t L A = nI 116
  ·
    by_cases q1_105 : sg t L (A + 1) = nI 105
    ·
      by_cases q2_99 : sg t L (A + 2) = nI 99
      ·
        by_cases q3_107 : sg t L (A + 3) = nI 107
        ·
          by_cases q4_32 : sg t L (A + 4) = nI 32
          ·
            simp [rw_5, lcp, wdP, wdE, sqk, sq, tkB, tkA, Nat.add_assoc, *]
          ·
            simp [rw_5, lcp, wdP, wdE, sqk, sq, tkB, tkA, Nat.add_assoc, *]
        ·
          simp [rw_5, lcp, wdP, wdE, sqk, sq, tkB, tkA, Nat.add_assoc, *]
      ·
        simp [rw_5, lcp, wdP, wdE, sqk, sq, tkB, tkA, Nat.add_assoc, *]
    ·
      simp [rw_5, lcp, wdP, wdE, sqk, sq, tkB, tkA, Nat.add_assoc, *]
  by_cases q0_115 : sg t L A = nI 115
  ·
    by_cases q1_104 : sg t L (A + 1) = nI 104
    ·
      by_cases q2_101 : sg t L (A + 2) = nI 101
      ·
        by_cases q3_108 : sg t L (A + 3) = nI 108
        ·
          by_cases q4_118 : sg t L (A + 4) = nI 118
          ·
            by_cases q5_101 : sg t L (A + 5) = nI 101
            ·
              by_cases q6_32 : sg t L (A + 6) = nI 32
              ·
                simp [rw_5, lcp, wdP, wdE, sqk, sq, tkB, tkA, Nat.add_assoc, *]
              ·
                simp [rw_5, lcp, wdP, wdE, sqk, sq, tkB, tkA, Nat.add_assoc, *]
            ·
              simp [rw_5, lcp, wdP, wdE, sqk, sq, tkB, tkA, Nat.add_assoc, *]
          ·
            simp [rw_5, lcp, wdP, wdE, sqk, sq, tkB, tkA, Nat.add_assoc, *]
        ·
          simp [rw_5, lcp, wdP, wdE, sqk, sq, tkB, tkA, Nat.add_assoc, *]
      ·
        simp [rw_5, lcp, wdP, wdE, sqk, sq, tkB, tkA, Nat.add_assoc, *]
    by_cases q1_116 : sg t L (A + 1) = nI 116
    ·
      by_cases q2_97 : sg t L (A + 2) = nI 97
      ·
        by_cases q3_116 : sg t L (A + 3) = nI 116
        ·
          by_cases q4_101 : sg t L (A + 4) = nI 101
          ·
            by_cases q5_32 : sg t L (A + 5) = nI 32
            ·
              simp [rw_5, lcp, wdP, wdE, sqk, sq, tkB, tkA, Nat.add_assoc, *]
            ·
              simp [rw_5, lcp, wdP, wdE, sqk, sq, tkB, tkA, Nat.add_assoc, *]
          ·
            simp [rw_5, lcp, wdP, wdE, sqk, sq, tkB, tkA, Nat.add_assoc, *]
        ·
          simp [rw_5, lcp, wdP, wdE, sqk, sq, tkB, tkA, Nat.add_assoc, *]
      ·
        simp [rw_5, lcp, wdP, wdE, sqk, sq, tkB, tkA, Nat.add_assoc, *]
    by_cases q1_101 : sg t L (A + 1) = nI 101
    ·
      by_cases q2_116 : sg t L (A + 2) = nI 116
      ·
        by_cases q3_32 : sg t L (A + 3) = nI 32
        ·
          simp [rw_5, lcp, wdP, wdE, sqk, sq, tkB, tkA, Nat.add_assoc, *]
        ·
          simp [rw_5, lcp, wdP, wdE, sqk, sq, tkB, tkA, Nat.add_assoc, *]
      ·
        simp [rw_5, lcp, wdP, wdE, sqk, sq, tkB, tkA, Nat.add_assoc, *]
    ·
      simp [rw_5, lcp, wdP, wdE, sqk, sq, tkB, tkA, Nat.add_assoc, *]
  simp [rw_5, lcp, wdP, wdE, sqk, sq, tkB, tkA, Nat.add_assoc, *]

theorem wdP_k {t : Nat → Int32} {L A : Nat} : ∃ w, w < 5 ∧ (wdP t L A).1 = nI w := by
  unfold wdP
  repeat' split
  all_goals first | exact ⟨0, by omega, rfl⟩ | exact ⟨1, by omega, rfl⟩ | exact ⟨2, by omega, rfl⟩ | exact ⟨3, by omega, rfl⟩ | exact ⟨4, by omega, rfl⟩
theorem nw_n : ∀ w, w < 5 → nI w ≠ -20009 := by decide
theorem nw_2 : ∀ w, w < 5 → w ≠ 2 → nI w ≠ nI 2 := by decide
theorem nw_0 : ∀ w, w < 5 → w ≠ 0 → 0 < nI w := by decide
theorem nw_00 : ∀ w, w < 5 → w ≠ 0 → nI w ≠ nI 0 := by decide
set_option maxRecDepth 100000 in
set_option maxHeartbeats 4000000 in
theorem lp_X3_readWord {E : jx_E} {l : Launch} {n : Nat} {kd : jx_K} {R : jx_R} {I0 : jx_I} {s : Nat} {F t w a b : Nat → Int32} {L A : Nat} (hs : sSc kd R s) (hL : F 4 = nI L) (hL8 : L ≤ 80) (hA0 : F 6 = nI A) (hA : A ≤ L) : ∀ (z g0 f : Nat) (y y2 : Option Value), z + g0 = 5 → f ≤ 7 → jx_J E l cX3_readWord 5 (some .int) RX3 false (jx_rm 5) 0 0 (jx_Q0 n kd R (jx_Pi (fun r I' => r = (rwL (fun j => sg t L (A + j)) z g0 f).1 ∧ I' = cI I0 s (upd F 6 (nI (A + (rwL (fun j => sg t L (A + j)) z g0 f).2))) t w a b))) 0 0 n kd R (cI I0 s F t w a b) 4 [some (.ref s), some (.int (nI f)), some (.int (nI g0)), y, y2] [] := by
  obtain ⟨K0, K1, K2, K3, K4, R0, R1, R2, R3⟩ := id hs
  intro z
  induction z with
  | zero =>
    intro g0 f y y2 hz hf
    refine j_iload_n (pc' := 5) dX3_readWord_4 rfl rfl ?_
    refine j_iconst (pc' := 6) (v := nI 5) dX3_readWord_5 rfl rfl ?_
    first | refine j_icmp_geN' (tgt := 56) (pc' := 9) (by with_reducible rfl) (by with_reducible rfl) (by omega) (by omega) dX3_readWord_6 rfl (by decide) (fun c6 => ?_) (fun c6 => ?_) | refine j_icmp_ge (tgt := 56) (pc' := 9) dX3_readWord_6 rfl (by decide) (fun c6 => ?_) (fun c6 => ?_)
    ·
      refine j_aload_n (pc' := 57) dX3_readWord_56 rfl rfl ?_
      refine j_dup (pc' := 58) dX3_readWord_57 rfl rfl ?_
      refine j_getIv (pc' := 61) f_X3_29 (by assumption) (by first | (simp (disch := omega) only [jx_upS, jx_upK, jx_upA, cI_0, cI_1, cI_2, cI_3, cI_4, pk_us, pk_un, hL, hA0]; rfl) | rfl) dX3_readWord_58 rfl ?_
      refine j_iload_n (pc' := 62) dX3_readWord_61 rfl rfl ?_
      first | refine j_iaddN' (pc' := 63) (by with_reducible rfl) (by with_reducible rfl) dX3_readWord_62 rfl ?_ | refine j_iadd (pc' := 63) dX3_readWord_62 rfl ?_
      refine j_putI (pc' := 66) f_X3_29 (by assumption) rfl rfl dX3_readWord_63 rfl ?_
      refine j_eqI cW_0 ?_
      refine j_sipush (pc' := 69) (v := -20009) dX3_readWord_66 rfl rfl ?_
      refine j_reti dX3_readWord_69 rfl (by first | rfl | exact bi_n _) ?_
      rw [rwL]
      exact ⟨rfl, rfl⟩
    ·
      exact absurd c6 (by omega)
  | succ z ih =>
    intro g0 f y y2 hz hf
    refine j_iload_n (pc' := 5) dX3_readWord_4 rfl rfl ?_
    refine j_iconst (pc' := 6) (v := nI 5) dX3_readWord_5 rfl rfl ?_
    first | refine j_icmp_geN' (tgt := 56) (pc' := 9) (by with_reducible rfl) (by with_reducible rfl) (by omega) (by omega) dX3_readWord_6 rfl (by decide) (fun c6 => ?_) (fun c6 => ?_) | refine j_icmp_ge (tgt := 56) (pc' := 9) dX3_readWord_6 rfl (by decide) (fun c6 => ?_) (fun c6 => ?_)
    ·
      exact absurd c6 (by omega)
    ·
      have hw : g0 < 5 := by omega
      refine j_iload_n (pc' := 10) dX3_readWord_9 rfl rfl ?_
      refine j_cS0 (pc' := 13) m_X3_58 (c_X3_wordText hw) rfl rfl ⟨Nat.le_of_ble_eq_true rfl, Nat.le_of_ble_eq_true rfl⟩ ⟨Nat.zero_le _, Nat.zero_le _⟩ (Nat.le_of_ble_eq_true rfl) dX3_readWord_10 rfl (fun v1 I1 hq => ?_)
      obtain ⟨rfl, rfl⟩ := hq
      refine j_astore_n (pc' := 14) (lv' := [_, _, _, _, _]) dX3_readWord_13 rfl (by decide) rfl ?_
      refine j_aload_n (pc' := 15) dX3_readWord_14 rfl rfl ?_
      refine j_aload_n (pc' := 16) dX3_readWord_15 rfl rfl ?_
      refine j_cVi (pc' := 19) m_X3_62 (c_X3_matchedSigns hs hL hL8 hA0 hA hw) (by assumption) (by decide) rfl rfl rfl ⟨Nat.le_of_ble_eq_true rfl, Nat.le_of_ble_eq_true rfl⟩ ⟨Nat.zero_le _, Nat.zero_le _⟩ (Nat.le_of_ble_eq_true rfl) dX3_readWord_16 rfl (fun x1 I1 hq => ?_)
      obtain ⟨rfl, rfl⟩ := hq
      have hlc := lcp_le (g := fun j => sg t L (A + j)) (jx_wd g0) 0
      rw [jx_wdl g0 hw] at hlc
      have h7 := jx_ln_7 g0 hw
      refine j_istore (pc' := 21) (lv' := [_, _, _, _, _]) dX3_readWord_19 rfl (by decide) rfl ?_
      refine j_iload (pc' := 23) dX3_readWord_21 rfl rfl ?_
      refine j_aload_n (pc' := 24) dX3_readWord_23 rfl rfl ?_
      refine j_cStri (pc' := 27) hw m_X3_66 (c_J0_length_8abf5 hw) rfl rfl ⟨Nat.le_of_ble_eq_true rfl, Nat.le_of_ble_eq_true rfl⟩ ⟨Nat.zero_le _, Nat.zero_le _⟩ (Nat.le_of_ble_eq_true rfl) dX3_readWord_24 rfl (fun x1 I1 hq => ?_)
      obtain ⟨rfl, rfl⟩ := hq
      first | refine j_icmp_neN' (tgt := 43) (pc' := 30) (by with_reducible rfl) (by with_reducible rfl) (by omega) (by omega) dX3_readWord_27 rfl (by decide) (fun c27 => ?_) (fun c27 => ?_) | refine j_icmp_ne (tgt := 43) (pc' := 30) dX3_readWord_27 rfl (by decide) (fun c27 => ?_) (fun c27 => ?_)
      ·
        refine j_iload_n (pc' := 44) dX3_readWord_43 rfl rfl ?_
        refine j_iload (pc' := 46) dX3_readWord_44 rfl rfl ?_
        refine j_cSi (pc' := 49) m_X3_70 (c_max (by omega) (by omega)) rfl rfl ⟨Nat.le_of_ble_eq_true rfl, Nat.le_of_ble_eq_true rfl⟩ ⟨Nat.zero_le _, Nat.zero_le _⟩ (Nat.le_of_ble_eq_true rfl) dX3_readWord_46 rfl (fun x1 I1 hq => ?_)
        obtain ⟨rfl, rfl⟩ := hq
        refine j_istore_n (pc' := 50) (lv' := [_, _, _, _, _]) dX3_readWord_49 rfl (by decide) rfl ?_
        first | refine j_iincN (pc' := 53) (lv' := [_, _, _, _, _]) dX3_readWord_50 rfl rfl (by decide) rfl ?_ | refine j_iinc (pc' := 53) (lv' := [_, _, _, _, _]) dX3_readWord_50 rfl rfl rfl (by decide) rfl ?_
        refine j_goto (tgt := 4) dX3_readWord_53 (by decide) ?_
        have e1 : (if f < lcp (fun j => sg t L (A + j)) (jx_wd g0) 0 then lcp (fun j => sg t L (A + j)) (jx_wd g0) 0 else f) = max f (lcp (fun j => sg t L (A + j)) (jx_wd g0) 0) := by split <;> omega
        rw [e1, rwL, if_neg c27]
        exact ih (g0 + 1) (max f (lcp (fun j => sg t L (A + j)) (jx_wd g0) 0)) _ _ (by omega) (by omega)
      ·
        refine j_aload_n (pc' := 31) dX3_readWord_30 rfl rfl ?_
        refine j_dup (pc' := 32) dX3_readWord_31 rfl rfl ?_
        refine j_getIv (pc' := 35) f_X3_29 (by assumption) (by first | (simp (disch := omega) only [jx_upS, jx_upK, jx_upA, cI_0, cI_1, cI_2, cI_3, cI_4, pk_us, pk_un, hL, hA0]; rfl) | rfl) dX3_readWord_32 rfl ?_
        refine j_iload (pc' := 37) dX3_readWord_35 rfl rfl ?_
        first | refine j_iaddN' (pc' := 38) (by with_reducible rfl) (by with_reducible rfl) dX3_readWord_37 rfl ?_ | refine j_iadd (pc' := 38) dX3_readWord_37 rfl ?_
        refine j_putI (pc' := 41) f_X3_29 (by assumption) rfl rfl dX3_readWord_38 rfl ?_
        refine j_eqI cW_0 ?_
        refine j_iload_n (pc' := 42) dX3_readWord_41 rfl rfl ?_
        refine j_reti dX3_readWord_42 rfl (by first | rfl | exact bi_n _) ?_
        rw [rwL, if_pos c27, ← c27]
        exact ⟨rfl, rfl⟩
set_option maxRecDepth 100000 in
set_option maxHeartbeats 4000000 in
theorem c_X3_readWord {E : jx_E} {l : Launch} {n : Nat} {kd : jx_K} {R : jx_R} {I0 : jx_I} {s : Nat} {F t w a b : Nat → Int32} {L A : Nat} (hs : sSc kd R s) (hL : F 4 = nI L) (hL8 : L ≤ 80) (hA0 : F 6 = nI A) (hA : A ≤ L) : jx_Ci E l yX3_readWord cX3_readWord 5 (some .int) 5 n kd R (cI I0 s F t w a b) [.ref s] (fun r I' => r = (if (wdE t L (wdP t L A).2).1 = true then (wdP t L A).1 else -20009) ∧ I' = cI I0 s (upd F 6 (nI (wdE t L (wdP t L A).2).2)) t w a b) := by
  obtain ⟨K0, K1, K2, K3, K4, R0, R1, R2, R3⟩ := id hs
  refine jx_C0.ofJ RX3 [some (.ref s), none, none, none, none] (by decide) rfl rfl (Nat.le_of_ble_eq_true rfl) rfl ?_
  refine j_iconst (pc' := 1) (v := nI 0) dX3_readWord_0 rfl rfl ?_
  refine j_istore_n (pc' := 2) (lv' := [_, _, _, _, _]) dX3_readWord_1 rfl (by decide) rfl ?_
  refine j_iconst (pc' := 3) (v := nI 0) dX3_readWord_2 rfl rfl ?_
  refine j_istore_n (pc' := 4) (lv' := [_, _, _, _, _]) dX3_readWord_3 rfl (by decide) rfl ?_
  have hrw := rw_wd (t := t) (L := L) (A := A)
  refine ct_post_i (fun r I' hq => ?_) (lp_X3_readWord hs hL hL8 hA0 hA 5 0 0 none none rfl (Nat.zero_le _))
  rw [hrw.1, hrw.2] at hq
  exact hq

def cmE (w a b : Nat → Int32) (k : Nat) (c : Nat → Int32) (D : Nat) : Prop := w k = c (3 * D) ∧ a k = c (3 * D + 1) ∧ ((c (3 * D) = nI 0 ∨ c (3 * D) = nI 2) → b k = c (3 * D + 2))
set_option maxRecDepth 100000 in
set_option maxHeartbeats 4000000 in
theorem c_X3_readCommand {E : jx_E} {l : Launch} {n : Nat} {kd : jx_K} {R : jx_R} {I0 : jx_I} {s : Nat} {F t w a b : Nat → Int32} {L A D k : Nat} {c : Nat → Int32} (hs : sSc kd R s) (hL : F 4 = nI L) (hL8 : L ≤ 80) (hA0 : F 6 = nI A) (hA : A ≤ L) (hk : k < 14) : jx_Ci E l yX3_readCommand cX3_readCommand 3 (some .boolean) 6 n kd R (cI I0 s F t w a b) [.ref s, .int (nI k)] (fun r I' => r = bi (rdC t c L A D).1 ∧ ∃ F' w' a' b', I' = cI I0 s F' t w' a' b' ∧ F' 4 = F 4 ∧ F' 5 = F 5 ∧ F' 6 = nI (rdC t c L A D).2.1 ∧ (∀ j, j ≠ k → w' j = w j ∧ a' j = a j ∧ b' j = b j) ∧ ((rdC t c L A D).1 = true → cmE w' a' b' k (rdC t c L A D).2.2 D)) := by
  obtain ⟨K0, K1, K2, K3, K4, R0, R1, R2, R3⟩ := id hs
  refine jx_C0.ofJ RX3 [some (.ref s), some (.int (nI k)), none] (by decide) rfl rfl (Nat.le_of_ble_eq_true rfl) rfl ?_
  refine j_aload_n (pc' := 1) dX3_readCommand_0 rfl rfl ?_
  refine j_cVi (pc' := 4) m_X3_43 (c_X3_readWord hs hL hL8 hA0 hA) (by assumption) (by decide) rfl rfl rfl ⟨Nat.le_of_ble_eq_true rfl, Nat.le_of_ble_eq_true rfl⟩ ⟨Nat.zero_le _, Nat.zero_le _⟩ (Nat.le_of_ble_eq_true rfl) dX3_readCommand_1 rfl (fun x1 I1 hq => ?_)
  obtain ⟨rfl, rfl⟩ := hq
  have hA1 := wdE_le (t := t) (wdP_le (t := t) hA)
  obtain ⟨w0, hw0, hK⟩ := wdP_k (t := t) (L := L) (A := A)
  rw [hK]
  refine j_istore_n (pc' := 5) (lv' := [_, _, _]) dX3_readCommand_4 rfl (by decide) rfl ?_
  by_cases hE : (wdE t L (wdP t L A).2).1 = true
  · rw [if_pos hE]
    refine j_iload_n (pc' := 6) dX3_readCommand_5 rfl rfl ?_
    refine j_sipush (pc' := 9) (v := -20009) dX3_readCommand_6 rfl rfl ?_
    first | refine j_icmp_eqN' (tgt := 19) (pc' := 12) (by with_reducible rfl) (by with_reducible rfl) (by omega) (by omega) dX3_readCommand_9 rfl (by decide) (fun c9 => ?_) (fun c9 => ?_) | refine j_icmp_eq (tgt := 19) (pc' := 12) dX3_readCommand_9 rfl (by decide) (fun c9 => ?_) (fun c9 => ?_)
    ·
      exact absurd c9 (nw_n w0 hw0)
    ·
      refine j_aload_n (pc' := 13) dX3_readCommand_12 rfl rfl ?_
      refine j_cVi (pc' := 16) m_X3_47 (c_X3_readNumber hs (by simp (disch := omega) only [pk_un]; exact hL) hL8 pk_us hA1) (by assumption) (by decide) rfl rfl rfl ⟨Nat.le_of_ble_eq_true rfl, Nat.le_of_ble_eq_true rfl⟩ ⟨Nat.zero_le _, Nat.zero_le _⟩ (Nat.le_of_ble_eq_true rfl) dX3_readCommand_13 rfl (fun x1 I1 hq => ?_)
      obtain ⟨rfl, rfl⟩ := hq
      have hA2 := (nmF_le (t := t) (L := L) 5 0 (nI 0) _ hA1).2.1
      first | refine j_if_neB' (tgt := 21) (pc' := 19) (by with_reducible rfl) dX3_readCommand_16 rfl (by decide) (fun c16 => ?_) (fun c16 => ?_) | refine j_if_neN' (tgt := 21) (pc' := 19) (by with_reducible rfl) (by omega) dX3_readCommand_16 rfl (by decide) (fun c16 => ?_) (fun c16 => ?_) | refine j_if_ne (tgt := 21) (pc' := 19) dX3_readCommand_16 rfl (by decide) (fun c16 => ?_) (fun c16 => ?_)
      ·
        refine j_aload_n (pc' := 22) dX3_readCommand_21 rfl rfl ?_
        refine j_getR (pc' := 25) f_X3_15 (by assumption) (by assumption) dX3_readCommand_22 rfl ?_
        refine j_iload_n (pc' := 26) dX3_readCommand_25 rfl rfl ?_
        refine j_iload_n (pc' := 27) dX3_readCommand_26 rfl rfl ?_
        refine j_iast (pc' := 28) (by assumption) rfl (by omega) (by omega) dX3_readCommand_27 rfl ?_
        first | refine j_eqI cW_2 ?_ | refine j_eqI cW_3 ?_ | refine j_eqI cW_4 ?_
        refine j_aload_n (pc' := 29) dX3_readCommand_28 rfl rfl ?_
        refine j_getR (pc' := 32) f_X3_19 (by assumption) (by assumption) dX3_readCommand_29 rfl ?_
        refine j_iload_n (pc' := 33) dX3_readCommand_32 rfl rfl ?_
        refine j_aload_n (pc' := 34) dX3_readCommand_33 rfl rfl ?_
        refine j_getIv (pc' := 37) f_X3_51 (by assumption) (by first | (simp (disch := omega) only [jx_upS, jx_upK, jx_upA, cI_0, cI_1, cI_2, cI_3, cI_4, pk_us, pk_un, hL, hA0]; rfl) | rfl) dX3_readCommand_34 rfl ?_
        refine j_iast (pc' := 38) (by assumption) rfl (by omega) (by omega) dX3_readCommand_37 rfl ?_
        first | refine j_eqI cW_2 ?_ | refine j_eqI cW_3 ?_ | refine j_eqI cW_4 ?_
        refine j_aload_n (pc' := 39) dX3_readCommand_38 rfl rfl ?_
        refine j_getR (pc' := 42) f_X3_22 (by assumption) (by assumption) dX3_readCommand_39 rfl ?_
        refine j_iload_n (pc' := 43) dX3_readCommand_42 rfl rfl ?_
        refine j_iconst (pc' := 44) (v := nI 0) dX3_readCommand_43 rfl rfl ?_
        refine j_iast (pc' := 45) (by assumption) rfl (by omega) (by omega) dX3_readCommand_44 rfl ?_
        first | refine j_eqI cW_2 ?_ | refine j_eqI cW_3 ?_ | refine j_eqI cW_4 ?_
        refine j_iload_n (pc' := 46) dX3_readCommand_45 rfl rfl ?_
        first | refine j_if_neB' (tgt := 78) (pc' := 49) (by with_reducible rfl) dX3_readCommand_46 rfl (by decide) (fun c46 => ?_) (fun c46 => ?_) | refine j_if_neN' (tgt := 78) (pc' := 49) (by with_reducible rfl) (by omega) dX3_readCommand_46 rfl (by decide) (fun c46 => ?_) (fun c46 => ?_) | refine j_if_ne (tgt := 78) (pc' := 49) dX3_readCommand_46 rfl (by decide) (fun c46 => ?_) (fun c46 => ?_)
        ·
          refine j_iload_n (pc' := 79) dX3_readCommand_78 rfl rfl ?_
          refine j_iconst (pc' := 80) (v := nI 2) dX3_readCommand_79 rfl rfl ?_
          first | refine j_icmp_neN' (tgt := 101) (pc' := 83) (by with_reducible rfl) (by with_reducible rfl) (by omega) (by omega) dX3_readCommand_80 rfl (by decide) (fun c80 => ?_) (fun c80 => ?_) | refine j_icmp_ne (tgt := 101) (pc' := 83) dX3_readCommand_80 rfl (by decide) (fun c80 => ?_) (fun c80 => ?_)
          ·
            refine j_iconst (pc' := 102) (v := nI 1) dX3_readCommand_101 rfl rfl ?_
            refine j_goto (tgt := 106) dX3_readCommand_102 (by decide) ?_
            refine j_reti dX3_readCommand_106 rfl (by first | rfl | exact bi_n _) ?_
            rw [rdC, if_pos hE, if_pos c16, hK, if_neg (nw_2 w0 hw0 c80), if_pos (nw_0 w0 hw0 c46)]
            dsimp only
            exact ⟨rfl, _, _, _, _, rfl, (by simp (disch := omega) only [pk_us, pk_un]), (by simp (disch := omega) only [pk_us, pk_un]), (by simp (disch := omega) only [pk_us, pk_un]), fun j hj => ⟨by simp only [pk_un hj], by simp only [pk_un hj], by simp only [pk_un hj]⟩, fun _ => ⟨by simp (disch := omega) only [pk_us, pk_un], by simp (disch := omega) only [pk_us, pk_un], fun h => absurd h (fun z => z.elim (fun z => nw_00 w0 hw0 c46 (by simpa (disch := omega) only [pk_us, pk_un] using z)) (fun z => nw_2 w0 hw0 c80 (by simpa (disch := omega) only [pk_us, pk_un] using z)))⟩⟩
          ·
            have e2 : w0 = 2 := by omega
            subst e2
            refine j_aload_n (pc' := 84) dX3_readCommand_83 rfl rfl ?_
            refine j_bipush (pc' := 86) (v := nI 58) dX3_readCommand_84 rfl rfl ?_
            refine j_cVi (pc' := 89) m_X3_39 (c_X3_readSign hs (by simp (disch := omega) only [pk_un]; exact hL) hL8 pk_us hA2 (x := nI 58) (by decide)) (by assumption) (by decide) rfl rfl rfl ⟨Nat.le_of_ble_eq_true rfl, Nat.le_of_ble_eq_true rfl⟩ ⟨Nat.zero_le _, Nat.zero_le _⟩ (Nat.le_of_ble_eq_true rfl) dX3_readCommand_86 rfl (fun x1 I1 hq => ?_)
            obtain ⟨rfl, rfl⟩ := hq
            have hA3 := tkA_le (t := t) (x := nI 58) hA2 (by decide)
            first | refine j_if_eqB' (tgt := 105) (pc' := 92) (by with_reducible rfl) dX3_readCommand_89 rfl (by decide) (fun c89 => ?_) (fun c89 => ?_) | refine j_if_eqN' (tgt := 105) (pc' := 92) (by with_reducible rfl) (by omega) dX3_readCommand_89 rfl (by decide) (fun c89 => ?_) (fun c89 => ?_) | refine j_if_eq (tgt := 105) (pc' := 92) dX3_readCommand_89 rfl (by decide) (fun c89 => ?_) (fun c89 => ?_)
            ·
              refine j_iconst (pc' := 106) (v := nI 0) dX3_readCommand_105 rfl rfl ?_
              refine j_reti dX3_readCommand_106 rfl (by first | rfl | exact bi_n _) ?_
              rw [rdC, if_pos hE, if_pos c16, hK, if_pos rfl, if_neg (by rw [c89]; decide)]
              dsimp only
              exact ⟨rfl, _, _, _, _, rfl, (by simp (disch := omega) only [pk_us, pk_un]), (by simp (disch := omega) only [pk_us, pk_un]), (by simp (disch := omega) only [pk_us, pk_un]), fun j hj => ⟨by simp only [pk_un hj], by simp only [pk_un hj], by simp only [pk_un hj]⟩, fun h => absurd h (by decide)⟩
            ·
              refine j_aload_n (pc' := 93) dX3_readCommand_92 rfl rfl ?_
              refine j_iload_n (pc' := 94) dX3_readCommand_93 rfl rfl ?_
              refine j_iconst (pc' := 95) (v := nI 0) dX3_readCommand_94 rfl rfl ?_
              refine j_cVi (pc' := 98) m_X3_54 (c_X3_readSecond (ng := false) hs (by simp (disch := omega) only [pk_un]; exact hL) hL8 pk_us hA3 hk) (by assumption) (by decide) rfl rfl rfl ⟨Nat.le_of_ble_eq_true rfl, Nat.le_of_ble_eq_true rfl⟩ ⟨Nat.zero_le _, Nat.zero_le _⟩ (Nat.le_of_ble_eq_true rfl) dX3_readCommand_95 rfl (fun x1 I1 hq => ?_)
              obtain ⟨rfl, rfl⟩ := hq
              first | refine j_if_eqB' (tgt := 105) (pc' := 101) (by with_reducible rfl) dX3_readCommand_98 rfl (by decide) (fun c98 => ?_) (fun c98 => ?_) | refine j_if_eqN' (tgt := 105) (pc' := 101) (by with_reducible rfl) (by omega) dX3_readCommand_98 rfl (by decide) (fun c98 => ?_) (fun c98 => ?_) | refine j_if_eq (tgt := 105) (pc' := 101) dX3_readCommand_98 rfl (by decide) (fun c98 => ?_) (fun c98 => ?_)
              ·
                rw [if_neg (by rw [c98]; decide)]
                refine j_iconst (pc' := 106) (v := nI 0) dX3_readCommand_105 rfl rfl ?_
                refine j_reti dX3_readCommand_106 rfl (by first | rfl | exact bi_n _) ?_
                rw [rdC, if_pos hE, if_pos c16, hK, if_pos rfl, if_pos c89]
                dsimp only
                rw [c98]
                exact ⟨rfl, _, _, _, _, rfl, (by simp (disch := omega) only [pk_us, pk_un]), (by simp (disch := omega) only [pk_us, pk_un]), (by simp (disch := omega) only [pk_us, pk_un]), fun j hj => ⟨by simp only [pk_un hj], by simp only [pk_un hj], by simp only [pk_un hj]⟩, fun h => absurd h (by decide)⟩
              ·
                rw [if_pos c98]
                refine j_iconst (pc' := 102) (v := nI 1) dX3_readCommand_101 rfl rfl ?_
                refine j_goto (tgt := 106) dX3_readCommand_102 (by decide) ?_
                refine j_reti dX3_readCommand_106 rfl (by first | rfl | exact bi_n _) ?_
                rw [rdC, if_pos hE, if_pos c16, hK, if_pos rfl, if_pos c89]
                dsimp only
                rw [c98]
                exact ⟨rfl, _, _, _, _, rfl, (by simp (disch := omega) only [pk_us, pk_un]), (by simp (disch := omega) only [pk_us, pk_un]), (by simp (disch := omega) only [pk_us, pk_un]), fun j hj => ⟨by simp only [pk_un hj], by simp only [pk_un hj], by simp only [pk_un hj]⟩, fun _ => ⟨by simp (disch := omega) only [pk_us, pk_un], by simp (disch := omega) only [pk_us, pk_un], fun _ => by simp (disch := omega) only [pk_us, pk_un]; rfl⟩⟩
        ·
          have e0 : w0 = 0 := by omega
          subst e0
          refine j_aload_n (pc' := 50) dX3_readCommand_49 rfl rfl ?_
          refine j_bipush (pc' := 52) (v := nI 61) dX3_readCommand_50 rfl rfl ?_
          refine j_cVi (pc' := 55) m_X3_39 (c_X3_readSign hs (by simp (disch := omega) only [pk_un]; exact hL) hL8 pk_us hA2 (x := nI 61) (by decide)) (by assumption) (by decide) rfl rfl rfl ⟨Nat.le_of_ble_eq_true rfl, Nat.le_of_ble_eq_true rfl⟩ ⟨Nat.zero_le _, Nat.zero_le _⟩ (Nat.le_of_ble_eq_true rfl) dX3_readCommand_52 rfl (fun x1 I1 hq => ?_)
          obtain ⟨rfl, rfl⟩ := hq
          have hA3 := tkA_le (t := t) (x := nI 61) hA2 (by decide)
          first | refine j_if_eqB' (tgt := 76) (pc' := 58) (by with_reducible rfl) dX3_readCommand_55 rfl (by decide) (fun c55 => ?_) (fun c55 => ?_) | refine j_if_eqN' (tgt := 76) (pc' := 58) (by with_reducible rfl) (by omega) dX3_readCommand_55 rfl (by decide) (fun c55 => ?_) (fun c55 => ?_) | refine j_if_eq (tgt := 76) (pc' := 58) dX3_readCommand_55 rfl (by decide) (fun c55 => ?_) (fun c55 => ?_)
          ·
            refine j_iconst (pc' := 77) (v := nI 0) dX3_readCommand_76 rfl rfl ?_
            refine j_reti dX3_readCommand_77 rfl (by first | rfl | exact bi_n _) ?_
            rw [rdC, if_pos hE, if_pos c16, hK, if_neg (by decide), if_neg (by decide), if_neg (by rw [c55]; decide)]
            dsimp only
            exact ⟨rfl, _, _, _, _, rfl, (by simp (disch := omega) only [pk_us, pk_un]), (by simp (disch := omega) only [pk_us, pk_un]), (by simp (disch := omega) only [pk_us, pk_un]), fun j hj => ⟨by simp only [pk_un hj], by simp only [pk_un hj], by simp only [pk_un hj]⟩, fun h => absurd h (by decide)⟩
          ·
            refine j_aload_n (pc' := 59) dX3_readCommand_58 rfl rfl ?_
            refine j_iload_n (pc' := 60) dX3_readCommand_59 rfl rfl ?_
            refine j_aload_n (pc' := 61) dX3_readCommand_60 rfl rfl ?_
            refine j_bipush (pc' := 63) (v := nI 45) dX3_readCommand_61 rfl rfl ?_
            refine j_cVi (pc' := 66) m_X3_39 (c_X3_readSign hs (by simp (disch := omega) only [pk_un]; exact hL) hL8 pk_us hA3 (x := nI 45) (by decide)) (by assumption) (by decide) rfl rfl rfl ⟨Nat.le_of_ble_eq_true rfl, Nat.le_of_ble_eq_true rfl⟩ ⟨Nat.zero_le _, Nat.zero_le _⟩ (Nat.le_of_ble_eq_true rfl) dX3_readCommand_63 rfl (fun x1 I1 hq => ?_)
            obtain ⟨rfl, rfl⟩ := hq
            have hA4 := tkA_le (t := t) (x := nI 45) hA3 (by decide)
            refine j_cVi (pc' := 69) m_X3_54 (c_X3_readSecond hs (by simp (disch := omega) only [pk_un]; exact hL) hL8 pk_us hA4 hk) (by assumption) (by decide) rfl rfl rfl ⟨Nat.le_of_ble_eq_true rfl, Nat.le_of_ble_eq_true rfl⟩ ⟨Nat.zero_le _, Nat.zero_le _⟩ (Nat.le_of_ble_eq_true rfl) dX3_readCommand_66 rfl (fun x1 I1 hq => ?_)
            obtain ⟨rfl, rfl⟩ := hq
            first | refine j_if_eqB' (tgt := 76) (pc' := 72) (by with_reducible rfl) dX3_readCommand_69 rfl (by decide) (fun c69 => ?_) (fun c69 => ?_) | refine j_if_eqN' (tgt := 76) (pc' := 72) (by with_reducible rfl) (by omega) dX3_readCommand_69 rfl (by decide) (fun c69 => ?_) (fun c69 => ?_) | refine j_if_eq (tgt := 76) (pc' := 72) dX3_readCommand_69 rfl (by decide) (fun c69 => ?_) (fun c69 => ?_)
            ·
              rw [if_neg (by rw [c69]; decide)]
              refine j_iconst (pc' := 77) (v := nI 0) dX3_readCommand_76 rfl rfl ?_
              refine j_reti dX3_readCommand_77 rfl (by first | rfl | exact bi_n _) ?_
              rw [rdC, if_pos hE, if_pos c16, hK, if_neg (by decide), if_neg (by decide), if_pos c55]
              dsimp only
              rw [c69]
              exact ⟨rfl, _, _, _, _, rfl, (by simp (disch := omega) only [pk_us, pk_un]), (by simp (disch := omega) only [pk_us, pk_un]), (by simp (disch := omega) only [pk_us, pk_un]), fun j hj => ⟨by simp only [pk_un hj], by simp only [pk_un hj], by simp only [pk_un hj]⟩, fun h => absurd h (by decide)⟩
            ·
              rw [if_pos c69]
              refine j_iconst (pc' := 73) (v := nI 1) dX3_readCommand_72 rfl rfl ?_
              refine j_goto (tgt := 77) dX3_readCommand_73 (by decide) ?_
              refine j_reti dX3_readCommand_77 rfl (by first | rfl | exact bi_n _) ?_
              rw [rdC, if_pos hE, if_pos c16, hK, if_neg (by decide), if_neg (by decide), if_pos c55]
              dsimp only
              rw [c69]
              exact ⟨rfl, _, _, _, _, rfl, (by simp (disch := omega) only [pk_us, pk_un]), (by simp (disch := omega) only [pk_us, pk_un]), (by simp (disch := omega) only [pk_us, pk_un]), fun j hj => ⟨by simp only [pk_un hj], by simp only [pk_un hj], by simp only [pk_un hj]⟩, fun _ => ⟨by simp (disch := omega) only [pk_us, pk_un], by simp (disch := omega) only [pk_us, pk_un], fun _ => by simp (disch := omega) only [pk_us, pk_un]⟩⟩
      ·
        refine j_iconst (pc' := 20) (v := nI 0) dX3_readCommand_19 rfl rfl ?_
        refine j_reti dX3_readCommand_20 rfl (by first | rfl | exact bi_n _) ?_
        rw [rdC, if_pos hE, if_neg (by rw [c16]; decide)]
        dsimp only
        exact ⟨rfl, _, _, _, _, rfl, (by simp (disch := omega) only [pk_us, pk_un]), (by simp (disch := omega) only [pk_us, pk_un]), (by simp (disch := omega) only [pk_us, pk_un]), fun j hj => ⟨by simp only [pk_un hj], by simp only [pk_un hj], by simp only [pk_un hj]⟩, fun h => absurd h (by decide)⟩
  · rw [if_neg hE]
    refine j_iload_n (pc' := 6) dX3_readCommand_5 rfl rfl ?_
    refine j_sipush (pc' := 9) (v := -20009) dX3_readCommand_6 rfl rfl ?_
    first | refine j_icmp_eqN' (tgt := 19) (pc' := 12) (by with_reducible rfl) (by with_reducible rfl) (by omega) (by omega) dX3_readCommand_9 rfl (by decide) (fun c9 => ?_) (fun c9 => ?_) | refine j_icmp_eq (tgt := 19) (pc' := 12) dX3_readCommand_9 rfl (by decide) (fun c9 => ?_) (fun c9 => ?_)
    ·
      refine j_iconst (pc' := 20) (v := nI 0) dX3_readCommand_19 rfl rfl ?_
      refine j_reti dX3_readCommand_20 rfl (by first | rfl | exact bi_n _) ?_
      rw [rdC, if_neg hE]
      dsimp only
      exact ⟨rfl, _, _, _, _, rfl, (by simp (disch := omega) only [pk_us, pk_un]), (by simp (disch := omega) only [pk_us, pk_un]), (by simp (disch := omega) only [pk_us, pk_un]), fun j hj => ⟨by simp only [pk_un hj], by simp only [pk_un hj], by simp only [pk_un hj]⟩, fun h => absurd h (by decide)⟩
    ·
      exact absurd rfl c9

