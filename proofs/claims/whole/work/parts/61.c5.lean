theorem rdC_c {t c c' : Nat → Int32} {L A D : Nat} : (rdC t c L A D).1 = (rdC t c' L A D).1 ∧ (rdC t c L A D).2.1 = (rdC t c' L A D).2.1 := by
  unfold rdC
  repeat' split
  all_goals exact ⟨rfl, rfl⟩
theorem rdC_o {t c : Nat → Int32} {L A D j : Nat} (hj : j < 3 * D) : (rdC t c L A D).2.2 j = c j := by
  unfold rdC
  repeat' split
  all_goals simp (disch := omega) only [pk_un]
theorem rdS_o {t : Nat → Int32} {L : Nat} : ∀ (z A D : Nat) (c : Nat → Int32) (j : Nat), j < 3 * D → (rdS t L z A D c).2.2.2 j = c j := by
  intro z
  induction z with
  | zero => intro A D c j hj; rfl
  | succ z ih =>
    intro A D c j hj
    rw [rdS]
    split
    · split
      · rw [ih _ _ _ _ (by omega)]; exact rdC_o hj
      · exact rdC_o hj
    · exact rdC_o hj
theorem rdS_z {t : Nat → Int32} {L : Nat} : ∀ (z A D : Nat) (c : Nat → Int32), D ≤ (rdS t L z A D c).2.2.1 := by
  intro z
  induction z with
  | zero => intro A D c; exact Nat.le_refl _
  | succ z ih =>
    intro A D c
    rw [rdS]
    split
    · split
      · have := ih (tkA t L (rdC t c L A D).2.1 (nI 59)) (D + 1) (rdC t c L A D).2.2; omega
      · dsimp only; omega
    · exact Nat.le_refl _
theorem cmE_o {w a b w' a' b' : Nat → Int32} {k : Nat} {c c' : Nat → Int32} {D : Nat} (h : cmE w a b k c D) (hw : w' k = w k) (ha : a' k = a k) (hb : b' k = b k) (hc : ∀ j, j < 3 * (D + 1) → c' j = c j) : cmE w' a' b' k c' D := by
  unfold cmE at *
  rw [hw, ha, hb, hc _ (by omega), hc _ (by omega), hc _ (by omega)]
  exact h
set_option maxRecDepth 100000 in
set_option maxHeartbeats 4000000 in
theorem lp_X3_readCommands {E : jx_E} {l : Launch} {n : Nat} {kd : jx_K} {R : jx_R} {I0 : jx_I} {s : Nat} {t : Nat → Int32} {L : Nat} (hs : sSc kd R s) (hL8 : L ≤ 80) : ∀ (z A k : Nat) (F w a b c : Nat → Int32), z + k = 15 → F 4 = nI L → F 5 = nI k → F 6 = nI A → A ≤ L → 6 * k ≤ A → (∀ j, j < k → cmE w a b j c j) → jx_J E l cX3_readCommands 2 (some .boolean) RX3 false (jx_rm 7) 0 0 (jx_Q0 n kd R (jx_Pi (fun r I' => r = bi (rdS t L z A k c).1 ∧ ∃ F' w' a' b', I' = cI I0 s F' t w' a' b' ∧ F' 4 = nI L ∧ F' 5 = nI (rdS t L z A k c).2.2.1 ∧ F' 6 = nI (rdS t L z A k c).2.1 ∧ ((rdS t L z A k c).1 = true → ∀ j, j < (rdS t L z A k c).2.2.1 → cmE w' a' b' j (rdS t L z A k c).2.2.2 j)))) 0 0 n kd R (cI I0 s F t w a b) 12 [some (.ref s), some (.int (nI k))] [] := by
  obtain ⟨K0, K1, K2, K3, K4, R0, R1, R2, R3⟩ := id hs
  intro z
  induction z with
  | zero => intro A k F w a b c hz hL hF5 hA0 hA hkA hce; omega
  | succ z ih =>
    intro A k F w a b c hz hL hF5 hA0 hA hkA hce
    refine j_iload_n (pc' := 13) dX3_readCommands_12 rfl rfl ?_
    refine j_bipush (pc' := 15) (v := nI 14) dX3_readCommands_13 rfl rfl ?_
    first | refine j_icmp_geN' (tgt := 68) (pc' := 18) (by with_reducible rfl) (by with_reducible rfl) (by omega) (by omega) dX3_readCommands_15 rfl (by decide) (fun c15 => ?_) (fun c15 => ?_) | refine j_icmp_ge (tgt := 68) (pc' := 18) dX3_readCommands_15 rfl (by decide) (fun c15 => ?_) (fun c15 => ?_)
    ·
      exact absurd c15 (by omega)
    ·
      refine j_aload_n (pc' := 19) dX3_readCommands_18 rfl rfl ?_
      refine j_iload_n (pc' := 20) dX3_readCommands_19 rfl rfl ?_
      refine j_cVi (pc' := 23) m_X3_35 (c_X3_readCommand (c := c) (D := k) hs hL hL8 hA0 hA (by omega)) (by assumption) (by decide) rfl rfl rfl ⟨Nat.le_of_ble_eq_true rfl, Nat.le_of_ble_eq_true rfl⟩ ⟨Nat.zero_le _, Nat.zero_le _⟩ (Nat.le_of_ble_eq_true rfl) dX3_readCommands_20 rfl (fun x1 I1 hq => ?_)
      obtain ⟨rfl, F', w', a', b', rfl, h4, h5, h6, ho, hcm⟩ := hq
      have hr := rdC_le (t := t) (c := c) (D := k) hA
      rw [hL] at h4
      rw [hF5] at h5
      first | refine j_if_neB' (tgt := 28) (pc' := 26) (by with_reducible rfl) dX3_readCommands_23 rfl (by decide) (fun c23 => ?_) (fun c23 => ?_) | refine j_if_neN' (tgt := 28) (pc' := 26) (by with_reducible rfl) (by omega) dX3_readCommands_23 rfl (by decide) (fun c23 => ?_) (fun c23 => ?_) | refine j_if_ne (tgt := 28) (pc' := 26) dX3_readCommands_23 rfl (by decide) (fun c23 => ?_) (fun c23 => ?_)
      ·
        have h5r := hr.2 c23
        have hcc : ∀ j, j < k + 1 → cmE w' a' b' j (rdC t c L A k).2.2 j := by
          intro j hj
          by_cases e : j = k
          · subst e; exact hcm c23
          · obtain ⟨o1, o2, o3⟩ := ho j e
            exact cmE_o (hce j (by omega)) o1 o2 o3 (fun i hi => rdC_o (by omega))
        refine j_aload_n (pc' := 29) dX3_readCommands_28 rfl rfl ?_
        refine j_dup (pc' := 30) dX3_readCommands_29 rfl rfl ?_
        refine j_getIv (pc' := 33) f_X3_32 (by assumption) (by first | (simp (disch := omega) only [jx_upS, jx_upK, jx_upA, cI_0, cI_1, cI_2, cI_3, cI_4, pk_us, pk_un, h4, h5, h6, hL, hF5, hA0]; rfl) | rfl) dX3_readCommands_30 rfl ?_
        refine j_iconst (pc' := 34) (v := nI 1) dX3_readCommands_33 rfl rfl ?_
        first | refine j_iaddN' (pc' := 35) (by with_reducible rfl) (by with_reducible rfl) dX3_readCommands_34 rfl ?_ | refine j_iadd (pc' := 35) dX3_readCommands_34 rfl ?_
        refine j_putI (pc' := 38) f_X3_32 (by assumption) rfl rfl dX3_readCommands_35 rfl ?_
        refine j_eqI cW_0 ?_
        refine j_aload_n (pc' := 39) dX3_readCommands_38 rfl rfl ?_
        refine j_getIv (pc' := 42) f_X3_29 (by assumption) (by first | (simp (disch := omega) only [jx_upS, jx_upK, jx_upA, cI_0, cI_1, cI_2, cI_3, cI_4, pk_us, pk_un, h4, h5, h6, hL, hF5, hA0]; rfl) | rfl) dX3_readCommands_39 rfl ?_
        refine j_aload_n (pc' := 43) dX3_readCommands_42 rfl rfl ?_
        refine j_getIv (pc' := 46) f_X3_25 (by assumption) (by first | (simp (disch := omega) only [jx_upS, jx_upK, jx_upA, cI_0, cI_1, cI_2, cI_3, cI_4, pk_us, pk_un, h4, h5, h6, hL, hF5, hA0]; rfl) | rfl) dX3_readCommands_43 rfl ?_
        first | refine j_icmp_neN' (tgt := 51) (pc' := 49) (by with_reducible rfl) (by with_reducible rfl) (by omega) (by omega) dX3_readCommands_46 rfl (by decide) (fun c46 => ?_) (fun c46 => ?_) | refine j_icmp_ne (tgt := 51) (pc' := 49) dX3_readCommands_46 rfl (by decide) (fun c46 => ?_) (fun c46 => ?_)
        ·
          refine j_aload_n (pc' := 52) dX3_readCommands_51 rfl rfl ?_
          refine j_bipush (pc' := 54) (v := nI 59) dX3_readCommands_52 rfl rfl ?_
          refine j_cVi (pc' := 57) m_X3_39 (c_X3_readSign hs (by simp (disch := omega) only [pk_un]; exact h4) hL8 (by simp (disch := omega) only [pk_un]; exact h6) hr.1 (x := nI 59) (by decide)) (by assumption) (by decide) rfl rfl rfl ⟨Nat.le_of_ble_eq_true rfl, Nat.le_of_ble_eq_true rfl⟩ ⟨Nat.zero_le _, Nat.zero_le _⟩ (Nat.le_of_ble_eq_true rfl) dX3_readCommands_54 rfl (fun x1 I1 hq => ?_)
          obtain ⟨rfl, rfl⟩ := hq
          have ht := tkA_le (t := t) (x := nI 59) hr.1 (by decide)
          first | refine j_if_neB' (tgt := 62) (pc' := 60) (by with_reducible rfl) dX3_readCommands_57 rfl (by decide) (fun c57 => ?_) (fun c57 => ?_) | refine j_if_neN' (tgt := 62) (pc' := 60) (by with_reducible rfl) (by omega) dX3_readCommands_57 rfl (by decide) (fun c57 => ?_) (fun c57 => ?_) | refine j_if_ne (tgt := 62) (pc' := 60) dX3_readCommands_57 rfl (by decide) (fun c57 => ?_) (fun c57 => ?_)
          ·
            first | refine j_iincN (pc' := 65) (lv' := [_, _]) dX3_readCommands_62 rfl rfl (by decide) rfl ?_ | refine j_iinc (pc' := 65) (lv' := [_, _]) dX3_readCommands_62 rfl rfl rfl (by decide) rfl ?_
            refine j_goto (tgt := 12) dX3_readCommands_65 (by decide) ?_
            have e : tkA t L (rdC t c L A k).2.1 (nI 59) = (rdC t c L A k).2.1 + 1 := by rw [tkA, if_pos c57]
            have h := ih (tkA t L (rdC t c L A k).2.1 (nI 59)) (k + 1) (upd (upd F' 5 (nI (k + 1))) 6 (nI (tkA t L (rdC t c L A k).2.1 (nI 59)))) w' a' b' (rdC t c L A k).2.2 (by omega) (by simp (disch := omega) only [pk_us, pk_un]; assumption) (by simp (disch := omega) only [pk_us, pk_un]) pk_us ht (by omega) hcc
            rw [rdS, if_pos c23, if_pos c57]
            exact h
          ·
            refine j_iconst (pc' := 61) (v := nI 0) dX3_readCommands_60 rfl rfl ?_
            refine j_reti dX3_readCommands_61 rfl (by first | rfl | exact bi_n _) ?_
            have e3 : tkA t L (rdC t c L A k).2.1 (nI 59) = (rdC t c L A k).2.1 := by rw [tkA, if_neg (by rw [c57]; decide)]; rfl
            have e4 : decide ((rdC t c L A k).2.1 = L) = false := decide_eq_false c46
            rw [rdS, if_pos c23, if_neg (by rw [c57]; decide), e3]
            simp only [e4]
            exact ⟨rfl, _, _, _, _, rfl, (by simp (disch := omega) only [pk_us, pk_un]; assumption), (by simp (disch := omega) only [pk_us, pk_un]), (by simp (disch := omega) only [pk_us, pk_un]), fun z => absurd z Bool.false_ne_true⟩
        ·
          refine j_iconst (pc' := 50) (v := nI 1) dX3_readCommands_49 rfl rfl ?_
          refine j_reti dX3_readCommands_50 rfl (by first | rfl | exact bi_n _) ?_
          have e1 : sg t L (rdC t c L A k).2.1 = -1 := by rw [sg, if_neg (by omega)]
          have e2 : tkB t L (rdC t c L A k).2.1 (nI 59) = false := decide_eq_false (by rw [e1]; decide)
          have e3 : tkA t L (rdC t c L A k).2.1 (nI 59) = (rdC t c L A k).2.1 := by rw [tkA, if_neg (by rw [e2]; decide)]; rfl
          rw [rdS, if_pos c23, if_neg (by rw [e2]; decide), e3]
          exact ⟨bi_T (decide_eq_true (by omega)), _, _, _, _, rfl, (by simp (disch := omega) only [pk_us, pk_un]; assumption), (by simp (disch := omega) only [pk_us, pk_un]), (by simp (disch := omega) only [pk_us, pk_un]; assumption), fun _ j hj => hcc j hj⟩
      ·
        refine j_iconst (pc' := 27) (v := nI 0) dX3_readCommands_26 rfl rfl ?_
        refine j_reti dX3_readCommands_27 rfl (by first | rfl | exact bi_n _) ?_
        rw [rdS, if_neg (by rw [c23]; decide)]
        exact ⟨rfl, _, _, _, _, rfl, h4, h5, h6, fun z => absurd z Bool.false_ne_true⟩
set_option maxRecDepth 100000 in
set_option maxHeartbeats 4000000 in
theorem c_X3_readCommands {E : jx_E} {l : Launch} {n : Nat} {kd : jx_K} {R : jx_R} {I0 : jx_I} {s : Nat} {F t w a b : Nat → Int32} {L : Nat} {c : Nat → Int32} (hs : sSc kd R s) (hL : F 4 = nI L) (hL8 : L ≤ 80) : jx_Ci E l yX3_readCommands cX3_readCommands 2 (some .boolean) 7 n kd R (cI I0 s F t w a b) [.ref s] (fun r I' => r = bi (rdS t L 15 0 0 c).1 ∧ ∃ F' w' a' b', I' = cI I0 s F' t w' a' b' ∧ F' 4 = nI L ∧ F' 5 = nI (rdS t L 15 0 0 c).2.2.1 ∧ F' 6 = nI (rdS t L 15 0 0 c).2.1 ∧ ((rdS t L 15 0 0 c).1 = true → ∀ j, j < (rdS t L 15 0 0 c).2.2.1 → cmE w' a' b' j (rdS t L 15 0 0 c).2.2.2 j)) := by
  obtain ⟨K0, K1, K2, K3, K4, R0, R1, R2, R3⟩ := id hs
  refine jx_C0.ofJ RX3 [some (.ref s), none] (by decide) rfl rfl (Nat.le_of_ble_eq_true rfl) rfl ?_
  refine j_aload_n (pc' := 1) dX3_readCommands_0 rfl rfl ?_
  refine j_iconst (pc' := 2) (v := nI 0) dX3_readCommands_1 rfl rfl ?_
  refine j_putI (pc' := 5) f_X3_29 (by assumption) rfl rfl dX3_readCommands_2 rfl ?_
  refine j_eqI cW_0 ?_
  refine j_aload_n (pc' := 6) dX3_readCommands_5 rfl rfl ?_
  refine j_iconst (pc' := 7) (v := nI 0) dX3_readCommands_6 rfl rfl ?_
  refine j_putI (pc' := 10) f_X3_32 (by assumption) rfl rfl dX3_readCommands_7 rfl ?_
  refine j_eqI cW_0 ?_
  refine j_iconst (pc' := 11) (v := nI 0) dX3_readCommands_10 rfl rfl ?_
  refine j_istore_n (pc' := 12) (lv' := [_, _]) dX3_readCommands_11 rfl (by decide) rfl ?_
  exact lp_X3_readCommands hs hL8 15 0 0 (upd (upd F 6 (nI 0)) 5 (nI 0)) w a b c rfl (by simp (disch := omega) only [pk_un]; exact hL) pk_us ((pk_un (by decide)).trans pk_us) (Nat.zero_le _) (Nat.zero_le _) (fun j hj => absurd hj (Nat.not_lt_zero _))

