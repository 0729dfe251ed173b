theorem wdE_le {t : Nat → Int32} {L : Nat} {p : Bool × Nat} (h : p.2 ≤ L) : (wdE t L p).2 ≤ L := sqk_le h (by decide)
theorem sq_len {t : Nat → Int32} {L : Nat} : ∀ (xs : List Int32) (A : Nat), (sq t L xs A).1 = true → (sq t L xs A).2 = A + xs.length := by
  intro xs
  induction xs with
  | nil => intro A _; rfl
  | cons x xs ih =>
    intro A h
    rw [sq] at h ⊢
    by_cases hb : tkB t L A x = true
    · rw [if_pos hb] at h ⊢
      rw [ih _ h, tkA, if_pos hb, List.length_cons]
      omega
    · rw [if_neg hb] at h
      exact absurd h Bool.false_ne_true
theorem sqk_len {t : Nat → Int32} {L : Nat} {p : Bool × Nat} {xs : List Int32} (h : (sqk t L p xs).1 = true) : p.1 = true ∧ (sqk t L p xs).2 = p.2 + xs.length := by
  unfold sqk at h ⊢
  by_cases hp : p.1 = true
  · rw [if_pos hp] at h ⊢
    exact ⟨hp, sq_len xs _ h⟩
  · rw [if_neg hp] at h
    exact absurd h Bool.false_ne_true
theorem wdP_4 {t : Nat → Int32} {L A : Nat} (h : (wdE t L (wdP t L A).2).1 = true) : A + 4 ≤ (wdE t L (wdP t L A).2).2 := by
  have h1 := sqk_len (p := (wdP t L A).2) h
  have h2 : (wdE t L (wdP t L A).2).2 = (wdP t L A).2.2 + 1 := h1.2
  have h3 := h1.1
  rw [h2]
  unfold wdP at h3 ⊢
  have ht : A ≤ tkA t L A (nI 115) := by unfold tkA; split <;> omega
  split at h3
  · rename_i hc
    rw [if_pos hc]
    have := sq_len _ _ h3
    simp only [List.length_cons, List.length_nil] at this
    dsimp only
    omega
  · rename_i hc
    rw [if_neg hc]
    split at h3
    · rename_i hc
      rw [if_pos hc]
      have h4 := sqk_len h3
      have := sq_len _ _ h4.1
      have h5 := h4.2
      simp only [List.length_cons, List.length_nil] at this h5
      dsimp only
      omega
    · rename_i hc
      rw [if_neg hc]
      split at h3
      · rename_i hc
        have ht2 : tkA t L A (nI 115) = A + 1 := by rw [tkA, if_pos hc]
        rw [if_pos hc]
        split at h3
        · rename_i hc
          rw [if_pos hc]
          have h4 := sqk_len h3
          have := sq_len _ _ h4.1
          have h5 := h4.2
          simp only [List.length_cons, List.length_nil] at this h5
          dsimp only
          omega
        · rename_i hc
          rw [if_neg hc]
          split at h3
          · rename_i hc
            rw [if_pos hc]
            have h4 := sqk_len h3
            have := sq_len _ _ h4.1
            have h5 := h4.2
            simp only [List.length_cons, List.length_nil] at this h5
            dsimp only
            omega
          · rename_i hc
            rw [if_neg hc]
            have := sq_len _ _ h3
            simp only [List.length_cons, List.length_nil] at this
            dsimp only
            omega
      · exact absurd h3 Bool.false_ne_true
theorem nmF_1 {t : Nat → Int32} {L A : Nat} (h : nmB (nmF t L 5 0 (nI 0) A).1 = true) : A + 1 ≤ (nmF t L 5 0 (nI 0) A).2.2 := by
  by_cases hd : isD (sg t L A) = true
  · rw [nmF, if_pos hd]
    exact (nmF_le 4 1 _ (A + 1) (isD_lt hd)).1
  · rw [nmF, if_neg hd] at h
    exact absurd h Bool.false_ne_true
theorem nmF_ge {t : Nat → Int32} {L A : Nat} (hA : A ≤ L) : A ≤ (nmF t L 5 0 (nI 0) A).2.2 := (nmF_le 5 0 _ A hA).1
theorem tkA_ge {t : Nat → Int32} {L A : Nat} {x : Int32} : A ≤ tkA t L A x := by unfold tkA; split <;> omega
/-- a command from A on: whether it is there, where it stops, the commands behind it -/
def rdC (t c : Nat → Int32) (L A D : Nat) : Bool × Nat × (Nat → Int32) :=
  if (wdE t L (wdP t L A).2).1 = true then
    if nmB (nmF t L 5 0 (nI 0) (wdE t L (wdP t L A).2).2).1 = true then
      if (wdP t L A).1 = nI 2 then
        if tkB t L (nmF t L 5 0 (nI 0) (wdE t L (wdP t L A).2).2).2.2 (nI 58) = true then
          (nmB (nmF t L 5 0 (nI 0) (tkA t L (nmF t L 5 0 (nI 0) (wdE t L (wdP t L A).2).2).2.2 (nI 58))).1, (nmF t L 5 0 (nI 0) (tkA t L (nmF t L 5 0 (nI 0) (wdE t L (wdP t L A).2).2).2.2 (nI 58))).2.2, upd (upd (upd c (3 * D) (wdP t L A).1) (3 * D + 1) (nmF t L 5 0 (nI 0) (wdE t L (wdP t L A).2).2).2.1) (3 * D + 2) (nmF t L 5 0 (nI 0) (tkA t L (nmF t L 5 0 (nI 0) (wdE t L (wdP t L A).2).2).2.2 (nI 58))).2.1)
        else (false, tkA t L (nmF t L 5 0 (nI 0) (wdE t L (wdP t L A).2).2).2.2 (nI 58), upd (upd c (3 * D) (wdP t L A).1) (3 * D + 1) (nmF t L 5 0 (nI 0) (wdE t L (wdP t L A).2).2).2.1)
      else if 0 < (wdP t L A).1 then (true, (nmF t L 5 0 (nI 0) (wdE t L (wdP t L A).2).2).2.2, upd (upd c (3 * D) (wdP t L A).1) (3 * D + 1) (nmF t L 5 0 (nI 0) (wdE t L (wdP t L A).2).2).2.1)
      else if tkB t L (nmF t L 5 0 (nI 0) (wdE t L (wdP t L A).2).2).2.2 (nI 61) = true then
        (nmB (nmF t L 5 0 (nI 0) (tkA t L (tkA t L (nmF t L 5 0 (nI 0) (wdE t L (wdP t L A).2).2).2.2 (nI 61)) (nI 45))).1, (nmF t L 5 0 (nI 0) (tkA t L (tkA t L (nmF t L 5 0 (nI 0) (wdE t L (wdP t L A).2).2).2.2 (nI 61)) (nI 45))).2.2, upd (upd (upd c (3 * D) (wdP t L A).1) (3 * D + 1) (nmF t L 5 0 (nI 0) (wdE t L (wdP t L A).2).2).2.1) (3 * D + 2) (if tkB t L (tkA t L (nmF t L 5 0 (nI 0) (wdE t L (wdP t L A).2).2).2.2 (nI 61)) (nI 45) = true then -(nmF t L 5 0 (nI 0) (tkA t L (tkA t L (nmF t L 5 0 (nI 0) (wdE t L (wdP t L A).2).2).2.2 (nI 61)) (nI 45))).2.1 else (nmF t L 5 0 (nI 0) (tkA t L (tkA t L (nmF t L 5 0 (nI 0) (wdE t L (wdP t L A).2).2).2.2 (nI 61)) (nI 45))).2.1))
      else (false, tkA t L (nmF t L 5 0 (nI 0) (wdE t L (wdP t L A).2).2).2.2 (nI 61), upd (upd c (3 * D) (wdP t L A).1) (3 * D + 1) (nmF t L 5 0 (nI 0) (wdE t L (wdP t L A).2).2).2.1)
    else (false, (nmF t L 5 0 (nI 0) (wdE t L (wdP t L A).2).2).2.2, upd (upd c (3 * D) (wdP t L A).1) (3 * D + 1) (nmF t L 5 0 (nI 0) (wdE t L (wdP t L A).2).2).2.1)
  else (false, (wdE t L (wdP t L A).2).2, upd c (3 * D) (wdP t L A).1)
theorem rdC_le {t c : Nat → Int32} {L A D : Nat} (hA : A ≤ L) : (rdC t c L A D).2.1 ≤ L ∧ ((rdC t c L A D).1 = true → A + 5 ≤ (rdC t c L A D).2.1) := by
  have h1 : (wdE t L (wdP t L A).2).2 ≤ L := wdE_le (wdP_le hA)
  have h2 := (nmF_le (t := t) 5 0 (nI 0) _ h1).2.1
  unfold rdC
  split
  · rename_i hw
    have h4 := wdP_4 hw
    split
    · rename_i hn
      have h5 := nmF_1 hn
      split
      · split
        · have h6 : tkA t L (nmF t L 5 0 (nI 0) (wdE t L (wdP t L A).2).2).2.2 (nI 58) ≤ L := tkA_le h2 (by decide)
          have h7 := nmF_le (t := t) 5 0 (nI 0) _ h6
          have h8 : (nmF t L 5 0 (nI 0) (wdE t L (wdP t L A).2).2).2.2 ≤ tkA t L (nmF t L 5 0 (nI 0) (wdE t L (wdP t L A).2).2).2.2 (nI 58) := tkA_ge
          exact ⟨h7.2.1, fun _ => by dsimp only; omega⟩
        · exact ⟨tkA_le h2 (by decide), fun h => absurd h Bool.false_ne_true⟩
      · split
        · exact ⟨h2, fun _ => by dsimp only; omega⟩
        · split
          · have h6 : tkA t L (tkA t L (nmF t L 5 0 (nI 0) (wdE t L (wdP t L A).2).2).2.2 (nI 61)) (nI 45) ≤ L := tkA_le (tkA_le h2 (by decide)) (by decide)
            have h7 := nmF_le (t := t) 5 0 (nI 0) _ h6
            have h8 : (nmF t L 5 0 (nI 0) (wdE t L (wdP t L A).2).2).2.2 ≤ tkA t L (nmF t L 5 0 (nI 0) (wdE t L (wdP t L A).2).2).2.2 (nI 61) := tkA_ge
            have h9 : tkA t L (nmF t L 5 0 (nI 0) (wdE t L (wdP t L A).2).2).2.2 (nI 61) ≤ tkA t L (tkA t L (nmF t L 5 0 (nI 0) (wdE t L (wdP t L A).2).2).2.2 (nI 61)) (nI 45) := tkA_ge
            exact ⟨h7.2.1, fun _ => by dsimp only; omega⟩
          · exact ⟨tkA_le h2 (by decide), fun h => absurd h Bool.false_ne_true⟩
    · exact ⟨h2, fun h => absurd h Bool.false_ne_true⟩
  · exact ⟨h1, fun h => absurd h Bool.false_ne_true⟩
theorem bT {b : Bool} (h : b = true) : nI 1 = bi b := by rw [h]; rfl
theorem bF {b : Bool} (h : ¬ b = true) : nI 0 = bi b := by cases b with | true => exact absurd rfl h | false => rfl

set_option maxRecDepth 100000 in
set_option maxHeartbeats 4000000 in
theorem c_X6_readsCommand {E : jx_E} {l : Launch} {n : Nat} {kd : jx_K} {R : jx_R} {I0 : jx_I} {m : Nat} {F v a p o t c : Nat → Int32} {L A D : Nat} (hs : sMd kd R m) (hL : F 7 = nI L) (hL8 : L ≤ 80) (hA0 : F 8 = nI A) (hA : A ≤ L) (hD : F 9 = nI D) (hD2 : D ≤ 20) : jx_Ci E l yX6_readsCommand cX6_readsCommand 4 (some .boolean) 4 n kd R (mI I0 m F v a p o t c) [.ref m] (fun r I' => r = bi (rdC t c L A D).1 ∧ I' = mI I0 m (upd F 8 (nI (rdC t c L A D).2.1)) v a p o t ((rdC t c L A D).2.2)) := by
  obtain ⟨K0, K1, K2, K3, K4, K5, K6, R0, R1, R2, R4, R6, R10⟩ := id hs
  refine jx_C0.ofJ RX6 [some (.ref m), none, none, none] (by decide) rfl rfl (Nat.le_of_ble_eq_true rfl) rfl ?_
  refine j_aload_n (pc' := 1) dX6_readsCommand_0 rfl rfl ?_
  refine j_cVi (pc' := 4) m_X6_155 (c_X6_word hs (by first | exact hL | (simp (disch := omega) only [pk_un]; exact hL)) hL8 (by first | exact hA0 | exact pk_us) (by repeat (first | exact hA | assumption | refine tkA_le ?_ (by first | assumption | decide) | exact wdE_le (wdP_le (by assumption)) | refine (nmF_le 5 0 (nI 0) _ ?_).2.1)) (by first | exact hD | (simp (disch := omega) only [pk_un]; exact hD)) hD2) (by assumption) (by decide) rfl rfl rfl ⟨Nat.le_of_ble_eq_true rfl, Nat.le_of_ble_eq_true rfl⟩ ⟨Nat.zero_le _, Nat.zero_le _⟩ (Nat.le_of_ble_eq_true rfl) dX6_readsCommand_1 rfl (fun x1 I1 hq => ?_)
  obtain ⟨rfl, rfl⟩ := hq
  try rw [upd_upd]
  first | refine j_if_eqB' (tgt := 15) (pc' := 7) (by with_reducible rfl) dX6_readsCommand_4 rfl (by decide) (fun c4 => ?_) (fun c4 => ?_) | refine j_if_eqN' (tgt := 15) (pc' := 7) (by with_reducible rfl) (by omega) dX6_readsCommand_4 rfl (by decide) (fun c4 => ?_) (fun c4 => ?_) | refine j_if_eq (tgt := 15) (pc' := 7) dX6_readsCommand_4 rfl (by decide) (fun c4 => ?_) (fun c4 => ?_)
  ·
    refine j_iconst (pc' := 16) (v := nI 0) dX6_readsCommand_15 rfl rfl ?_
    refine j_reti dX6_readsCommand_16 rfl (by first | rfl | exact bi_n _) ?_
    unfold rdC
    first | rw [if_pos c4] | rw [if_neg c4] | rw [if_neg (by rw [c4]; decide)] | rw [if_pos (Int32.not_le.mp c4)] | rw [if_neg (Int32.not_lt.mpr c4)] | skip
    refine ⟨?_, ?_⟩
    · first | rfl | exact bT (by assumption) | exact bi_F (by assumption)
    · first | rfl | (rw [upd_upd]; done)
  ·
    refine j_aload_n (pc' := 8) dX6_readsCommand_7 rfl rfl ?_
    refine j_iconst (pc' := 9) (v := nI 1) dX6_readsCommand_8 rfl rfl ?_
    refine j_cVi (pc' := 12) m_X6_159 (c_X6_number hs (by first | exact hL | (simp (disch := omega) only [pk_un]; exact hL)) hL8 (by first | exact hA0 | exact pk_us) (by repeat (first | exact hA | assumption | refine tkA_le ?_ (by first | assumption | decide) | exact wdE_le (wdP_le (by assumption)) | refine (nmF_le 5 0 (nI 0) _ ?_).2.1)) (by first | exact hD | (simp (disch := omega) only [pk_un]; exact hD)) hD2 (by decide)) (by assumption) (by decide) rfl rfl rfl ⟨Nat.le_of_ble_eq_true rfl, Nat.le_of_ble_eq_true rfl⟩ ⟨Nat.zero_le _, Nat.zero_le _⟩ (Nat.le_of_ble_eq_true rfl) dX6_readsCommand_9 rfl (fun x1 I1 hq => ?_)
    obtain ⟨rfl, rfl⟩ := hq
    try rw [upd_upd]
    first | refine j_if_neB' (tgt := 17) (pc' := 15) (by with_reducible rfl) dX6_readsCommand_12 rfl (by decide) (fun c12 => ?_) (fun c12 => ?_) | refine j_if_neN' (tgt := 17) (pc' := 15) (by with_reducible rfl) (by omega) dX6_readsCommand_12 rfl (by decide) (fun c12 => ?_) (fun c12 => ?_) | refine j_if_ne (tgt := 17) (pc' := 15) dX6_readsCommand_12 rfl (by decide) (fun c12 => ?_) (fun c12 => ?_)
    ·
      refine j_aload_n (pc' := 18) dX6_readsCommand_17 rfl rfl ?_
      refine j_getR (pc' := 21) f_X6_25 (by assumption) (by assumption) dX6_readsCommand_18 rfl ?_
      refine j_iconst (pc' := 22) (v := nI 3) dX6_readsCommand_21 rfl rfl ?_
      refine j_aload_n (pc' := 23) dX6_readsCommand_22 rfl rfl ?_
      refine j_getIv (pc' := 26) f_X6_149 (by assumption) (by first | (simp (disch := omega) only [jx_upS, jx_upK, jx_upA, mI_0, mI_1, mI_2, mI_3, mI_4, mI_5, mI_6, pk_us, pk_un, hD]; rfl) | rfl) dX6_readsCommand_23 rfl ?_
      first | refine j_imulN' (pc' := 27) (by with_reducible rfl) (by with_reducible rfl) dX6_readsCommand_26 rfl ?_ | refine j_imul (pc' := 27) dX6_readsCommand_26 rfl ?_
      refine j_ialdv (pc' := 28) (by assumption) rfl (by omega) (by omega) (by first | (simp (disch := omega) only [jx_upS, jx_upK, jx_upA, mI_0, mI_1, mI_2, mI_3, mI_4, mI_5, mI_6, pk_us, pk_un, hD]; rfl) | rfl) dX6_readsCommand_27 rfl ?_
      refine j_istore_n (pc' := 29) (lv' := [_, _, _, _]) dX6_readsCommand_28 rfl (by decide) rfl ?_
      refine j_iload_n (pc' := 30) dX6_readsCommand_29 rfl rfl ?_
      refine j_iconst (pc' := 31) (v := nI 2) dX6_readsCommand_30 rfl rfl ?_
      first | refine j_icmp_neN' (tgt := 57) (pc' := 34) (by with_reducible rfl) (by with_reducible rfl) (by omega) (by omega) dX6_readsCommand_31 rfl (by decide) (fun c31 => ?_) (fun c31 => ?_) | refine j_icmp_ne (tgt := 57) (pc' := 34) dX6_readsCommand_31 rfl (by decide) (fun c31 => ?_) (fun c31 => ?_)
      ·
        refine j_iload_n (pc' := 58) dX6_readsCommand_57 rfl rfl ?_
        first | refine j_if_leN' (tgt := 63) (pc' := 61) (by with_reducible rfl) (by omega) dX6_readsCommand_58 rfl (by decide) (fun c58 => ?_) (fun c58 => ?_) | refine j_if_le (tgt := 63) (pc' := 61) dX6_readsCommand_58 rfl (by decide) (fun c58 => ?_) (fun c58 => ?_)
        ·
          refine j_aload_n (pc' := 64) dX6_readsCommand_63 rfl rfl ?_
          refine j_bipush (pc' := 66) (v := nI 61) dX6_readsCommand_64 rfl rfl ?_
          refine j_cVi (pc' := 69) m_X6_146 (c_X6_takes hs (by first | exact hL | (simp (disch := omega) only [pk_un]; exact hL)) hL8 (by first | exact hA0 | exact pk_us) (by repeat (first | exact hA | assumption | refine tkA_le ?_ (by first | assumption | decide) | exact wdE_le (wdP_le (by assumption)) | refine (nmF_le 5 0 (nI 0) _ ?_).2.1))) (by assumption) (by decide) rfl rfl rfl ⟨Nat.le_of_ble_eq_true rfl, Nat.le_of_ble_eq_true rfl⟩ ⟨Nat.zero_le _, Nat.zero_le _⟩ (Nat.le_of_ble_eq_true rfl) dX6_readsCommand_66 rfl (fun x1 I1 hq => ?_)
          obtain ⟨rfl, rfl⟩ := hq
          try rw [upd_upd]
          first | refine j_if_neB' (tgt := 74) (pc' := 72) (by with_reducible rfl) dX6_readsCommand_69 rfl (by decide) (fun c69 => ?_) (fun c69 => ?_) | refine j_if_neN' (tgt := 74) (pc' := 72) (by with_reducible rfl) (by omega) dX6_readsCommand_69 rfl (by decide) (fun c69 => ?_) (fun c69 => ?_) | refine j_if_ne (tgt := 74) (pc' := 72) dX6_readsCommand_69 rfl (by decide) (fun c69 => ?_) (fun c69 => ?_)
          ·
            refine j_aload_n (pc' := 75) dX6_readsCommand_74 rfl rfl ?_
            refine j_bipush (pc' := 77) (v := nI 45) dX6_readsCommand_75 rfl rfl ?_
            refine j_cVi (pc' := 80) m_X6_146 (c_X6_takes hs (by first | exact hL | (simp (disch := omega) only [pk_un]; exact hL)) hL8 (by first | exact hA0 | exact pk_us) (by repeat (first | exact hA | assumption | refine tkA_le ?_ (by first | assumption | decide) | exact wdE_le (wdP_le (by assumption)) | refine (nmF_le 5 0 (nI 0) _ ?_).2.1))) (by assumption) (by decide) rfl rfl rfl ⟨Nat.le_of_ble_eq_true rfl, Nat.le_of_ble_eq_true rfl⟩ ⟨Nat.zero_le _, Nat.zero_le _⟩ (Nat.le_of_ble_eq_true rfl) dX6_readsCommand_77 rfl (fun x1 I1 hq => ?_)
            obtain ⟨rfl, rfl⟩ := hq
            try rw [upd_upd]
            refine j_istore_n (pc' := 81) (lv' := [_, _, _, _]) dX6_readsCommand_80 rfl (by decide) rfl ?_
            refine j_aload_n (pc' := 82) dX6_readsCommand_81 rfl rfl ?_
            refine j_iconst (pc' := 83) (v := nI 2) dX6_readsCommand_82 rfl rfl ?_
            refine j_cVi (pc' := 86) m_X6_159 (c_X6_number hs (by first | exact hL | (simp (disch := omega) only [pk_un]; exact hL)) hL8 (by first | exact hA0 | exact pk_us) (by repeat (first | exact hA | assumption | refine tkA_le ?_ (by first | assumption | decide) | exact wdE_le (wdP_le (by assumption)) | refine (nmF_le 5 0 (nI 0) _ ?_).2.1)) (by first | exact hD | (simp (disch := omega) only [pk_un]; exact hD)) hD2 (by decide)) (by assumption) (by decide) rfl rfl rfl ⟨Nat.le_of_ble_eq_true rfl, Nat.le_of_ble_eq_true rfl⟩ ⟨Nat.zero_le _, Nat.zero_le _⟩ (Nat.le_of_ble_eq_true rfl) dX6_readsCommand_83 rfl (fun x1 I1 hq => ?_)
            obtain ⟨rfl, rfl⟩ := hq
            try rw [upd_upd]
            refine j_istore_n (pc' := 87) (lv' := [_, _, _, _]) dX6_readsCommand_86 rfl (by decide) rfl ?_
            refine j_aload_n (pc' := 88) dX6_readsCommand_87 rfl rfl ?_
            refine j_getR (pc' := 91) f_X6_25 (by assumption) (by assumption) dX6_readsCommand_88 rfl ?_
            refine j_iconst (pc' := 92) (v := nI 3) dX6_readsCommand_91 rfl rfl ?_
            refine j_aload_n (pc' := 93) dX6_readsCommand_92 rfl rfl ?_
            refine j_getIv (pc' := 96) f_X6_149 (by assumption) (by first | (simp (disch := omega) only [jx_upS, jx_upK, jx_upA, mI_0, mI_1, mI_2, mI_3, mI_4, mI_5, mI_6, pk_us, pk_un, hD]; rfl) | rfl) dX6_readsCommand_93 rfl ?_
            first | refine j_imulN' (pc' := 97) (by with_reducible rfl) (by with_reducible rfl) dX6_readsCommand_96 rfl ?_ | refine j_imul (pc' := 97) dX6_readsCommand_96 rfl ?_
            refine j_iconst (pc' := 98) (v := nI 2) dX6_readsCommand_97 rfl rfl ?_
            first | refine j_iaddN' (pc' := 99) (by with_reducible rfl) (by with_reducible rfl) dX6_readsCommand_98 rfl ?_ | refine j_iadd (pc' := 99) dX6_readsCommand_98 rfl ?_
            refine j_iload_n (pc' := 100) dX6_readsCommand_99 rfl rfl ?_
            first | refine j_if_eqB' (tgt := 120) (pc' := 103) (by with_reducible rfl) dX6_readsCommand_100 rfl (by decide) (fun c100 => ?_) (fun c100 => ?_) | refine j_if_eqN' (tgt := 120) (pc' := 103) (by with_reducible rfl) (by omega) dX6_readsCommand_100 rfl (by decide) (fun c100 => ?_) (fun c100 => ?_) | refine j_if_eq (tgt := 120) (pc' := 103) dX6_readsCommand_100 rfl (by decide) (fun c100 => ?_) (fun c100 => ?_)
            ·
              refine j_aload_n (pc' := 121) dX6_readsCommand_120 rfl rfl ?_
              refine j_getR (pc' := 124) f_X6_25 (by assumption) (by assumption) dX6_readsCommand_121 rfl ?_
              refine j_iconst (pc' := 125) (v := nI 3) dX6_readsCommand_124 rfl rfl ?_
              refine j_aload_n (pc' := 126) dX6_readsCommand_125 rfl rfl ?_
              refine j_getIv (pc' := 129) f_X6_149 (by assumption) (by first | (simp (disch := omega) only [jx_upS, jx_upK, jx_upA, mI_0, mI_1, mI_2, mI_3, mI_4, mI_5, mI_6, pk_us, pk_un, hD]; rfl) | rfl) dX6_readsCommand_126 rfl ?_
              first | refine j_imulN' (pc' := 130) (by with_reducible rfl) (by with_reducible rfl) dX6_readsCommand_129 rfl ?_ | refine j_imul (pc' := 130) dX6_readsCommand_129 rfl ?_
              refine j_iconst (pc' := 131) (v := nI 2) dX6_readsCommand_130 rfl rfl ?_
              first | refine j_iaddN' (pc' := 132) (by with_reducible rfl) (by with_reducible rfl) dX6_readsCommand_131 rfl ?_ | refine j_iadd (pc' := 132) dX6_readsCommand_131 rfl ?_
              refine j_ialdv (pc' := 133) (by assumption) rfl (by omega) (by omega) (by first | (simp (disch := omega) only [jx_upS, jx_upK, jx_upA, mI_0, mI_1, mI_2, mI_3, mI_4, mI_5, mI_6, pk_us, pk_un, hD]; rfl) | rfl) dX6_readsCommand_132 rfl ?_
              refine j_iast (pc' := 134) (by assumption) rfl (by omega) (by omega) dX6_readsCommand_133 rfl ?_
              first | refine j_eqI mW_1 ?_ | refine j_eqI mW_2 ?_ | refine j_eqI mW_3 ?_ | refine j_eqI mW_4 ?_ | refine j_eqI mW_5 ?_ | refine j_eqI mW_6 ?_
              refine j_iload_n (pc' := 135) dX6_readsCommand_134 rfl rfl ?_
              refine j_reti dX6_readsCommand_135 rfl (by first | rfl | exact bi_n _) ?_
              unfold rdC
              first | rw [if_pos c4] | rw [if_neg c4] | rw [if_neg (by rw [c4]; decide)] | rw [if_pos (Int32.not_le.mp c4)] | rw [if_neg (Int32.not_lt.mpr c4)] | skip
              first | rw [if_pos c12] | rw [if_neg c12] | rw [if_neg (by rw [c12]; decide)] | rw [if_pos (Int32.not_le.mp c12)] | rw [if_neg (Int32.not_lt.mpr c12)] | skip
              first | rw [if_pos c31] | rw [if_neg c31] | rw [if_neg (by rw [c31]; decide)] | rw [if_pos (Int32.not_le.mp c31)] | rw [if_neg (Int32.not_lt.mpr c31)] | skip
              first | rw [if_pos c58] | rw [if_neg c58] | rw [if_neg (by rw [c58]; decide)] | rw [if_pos (Int32.not_le.mp c58)] | rw [if_neg (Int32.not_lt.mpr c58)] | skip
              first | rw [if_pos c69] | rw [if_neg c69] | rw [if_neg (by rw [c69]; decide)] | rw [if_pos (Int32.not_le.mp c69)] | rw [if_neg (Int32.not_lt.mpr c69)] | skip
              first | rw [if_pos c100] | rw [if_neg c100] | rw [if_neg (by rw [c100]; decide)] | rw [if_pos (Int32.not_le.mp c100)] | rw [if_neg (Int32.not_lt.mpr c100)] | skip
              refine ⟨?_, ?_⟩
              · first | rfl | exact bT (by assumption) | exact bi_F (by assumption)
              · first | rfl | (rw [upd_upd]; done)
            ·
              refine j_aload_n (pc' := 104) dX6_readsCommand_103 rfl rfl ?_
              refine j_getR (pc' := 107) f_X6_25 (by assumption) (by assumption) dX6_readsCommand_104 rfl ?_
              refine j_iconst (pc' := 108) (v := nI 3) dX6_readsCommand_107 rfl rfl ?_
              refine j_aload_n (pc' := 109) dX6_readsCommand_108 rfl rfl ?_
              refine j_getIv (pc' := 112) f_X6_149 (by assumption) (by first | (simp (disch := omega) only [jx_upS, jx_upK, jx_upA, mI_0, mI_1, mI_2, mI_3, mI_4, mI_5, mI_6, pk_us, pk_un, hD]; rfl) | rfl) dX6_readsCommand_109 rfl ?_
              first | refine j_imulN' (pc' := 113) (by with_reducible rfl) (by with_reducible rfl) dX6_readsCommand_112 rfl ?_ | refine j_imul (pc' := 113) dX6_readsCommand_112 rfl ?_
              refine j_iconst (pc' := 114) (v := nI 2) dX6_readsCommand_113 rfl rfl ?_
              first | refine j_iaddN' (pc' := 115) (by with_reducible rfl) (by with_reducible rfl) dX6_readsCommand_114 rfl ?_ | refine j_iadd (pc' := 115) dX6_readsCommand_114 rfl ?_
              refine j_ialdv (pc' := 116) (by assumption) rfl (by omega) (by omega) (by first | (simp (disch := omega) only [jx_upS, jx_upK, jx_upA, mI_0, mI_1, mI_2, mI_3, mI_4, mI_5, mI_6, pk_us, pk_un, hD]; rfl) | rfl) dX6_readsCommand_115 rfl ?_
              refine j_ineg (pc' := 117) dX6_readsCommand_116 rfl ?_
              refine j_goto (tgt := 133) dX6_readsCommand_117 (by decide) ?_
              refine j_iast (pc' := 134) (by assumption) rfl (by omega) (by omega) dX6_readsCommand_133 rfl ?_
              first | refine j_eqI mW_1 ?_ | refine j_eqI mW_2 ?_ | refine j_eqI mW_3 ?_ | refine j_eqI mW_4 ?_ | refine j_eqI mW_5 ?_ | refine j_eqI mW_6 ?_
              refine j_iload_n (pc' := 135) dX6_readsCommand_134 rfl rfl ?_
              refine j_reti dX6_readsCommand_135 rfl (by first | rfl | exact bi_n _) ?_
              unfold rdC
              first | rw [if_pos c4] | rw [if_neg c4] | rw [if_neg (by rw [c4]; decide)] | rw [if_pos (Int32.not_le.mp c4)] | rw [if_neg (Int32.not_lt.mpr c4)] | skip
              first | rw [if_pos c12] | rw [if_neg c12] | rw [if_neg (by rw [c12]; decide)] | rw [if_pos (Int32.not_le.mp c12)] | rw [if_neg (Int32.not_lt.mpr c12)] | skip
              first | rw [if_pos c31] | rw [if_neg c31] | rw [if_neg (by rw [c31]; decide)] | rw [if_pos (Int32.not_le.mp c31)] | rw [if_neg (Int32.not_lt.mpr c31)] | skip
              first | rw [if_pos c58] | rw [if_neg c58] | rw [if_neg (by rw [c58]; decide)] | rw [if_pos (Int32.not_le.mp c58)] | rw [if_neg (Int32.not_lt.mpr c58)] | skip
              first | rw [if_pos c69] | rw [if_neg c69] | rw [if_neg (by rw [c69]; decide)] | rw [if_pos (Int32.not_le.mp c69)] | rw [if_neg (Int32.not_lt.mpr c69)] | skip
              first | rw [if_pos c100] | rw [if_neg c100] | rw [if_neg (by rw [c100]; decide)] | rw [if_pos (Int32.not_le.mp c100)] | rw [if_neg (Int32.not_lt.mpr c100)] | skip
              refine ⟨?_, ?_⟩
              · first | rfl | exact bT (by assumption) | exact bi_F (by assumption)
              · first | rfl | (rw [upd_upd]; done)
          ·
            refine j_iconst (pc' := 73) (v := nI 0) dX6_readsCommand_72 rfl rfl ?_
            refine j_reti dX6_readsCommand_73 rfl (by first | rfl | exact bi_n _) ?_
            unfold rdC
            first | rw [if_pos c4] | rw [if_neg c4] | rw [if_neg (by rw [c4]; decide)] | rw [if_pos (Int32.not_le.mp c4)] | rw [if_neg (Int32.not_lt.mpr c4)] | skip
            first | rw [if_pos c12] | rw [if_neg c12] | rw [if_neg (by rw [c12]; decide)] | rw [if_pos (Int32.not_le.mp c12)] | rw [if_neg (Int32.not_lt.mpr c12)] | skip
            first | rw [if_pos c31] | rw [if_neg c31] | rw [if_neg (by rw [c31]; decide)] | rw [if_pos (Int32.not_le.mp c31)] | rw [if_neg (Int32.not_lt.mpr c31)] | skip
            first | rw [if_pos c58] | rw [if_neg c58] | rw [if_neg (by rw [c58]; decide)] | rw [if_pos (Int32.not_le.mp c58)] | rw [if_neg (Int32.not_lt.mpr c58)] | skip
            first | rw [if_pos c69] | rw [if_neg c69] | rw [if_neg (by rw [c69]; decide)] | rw [if_pos (Int32.not_le.mp c69)] | rw [if_neg (Int32.not_lt.mpr c69)] | skip
            refine ⟨?_, ?_⟩
            · first | rfl | exact bT (by assumption) | exact bi_F (by assumption)
            · first | rfl | (rw [upd_upd]; done)
        ·
          refine j_iconst (pc' := 62) (v := nI 1) dX6_readsCommand_61 rfl rfl ?_
          refine j_reti dX6_readsCommand_62 rfl (by first | rfl | exact bi_n _) ?_
          unfold rdC
          first | rw [if_pos c4] | rw [if_neg c4] | rw [if_neg (by rw [c4]; decide)] | rw [if_pos (Int32.not_le.mp c4)] | rw [if_neg (Int32.not_lt.mpr c4)] | skip
          first | rw [if_pos c12] | rw [if_neg c12] | rw [if_neg (by rw [c12]; decide)] | rw [if_pos (Int32.not_le.mp c12)] | rw [if_neg (Int32.not_lt.mpr c12)] | skip
          first | rw [if_pos c31] | rw [if_neg c31] | rw [if_neg (by rw [c31]; decide)] | rw [if_pos (Int32.not_le.mp c31)] | rw [if_neg (Int32.not_lt.mpr c31)] | skip
          first | rw [if_pos c58] | rw [if_neg c58] | rw [if_neg (by rw [c58]; decide)] | rw [if_pos (Int32.not_le.mp c58)] | rw [if_neg (Int32.not_lt.mpr c58)] | skip
          refine ⟨?_, ?_⟩
          · first | rfl | exact bT (by assumption) | exact bi_F (by assumption)
          · first | rfl | (rw [upd_upd]; done)
      ·
        refine j_aload_n (pc' := 35) dX6_readsCommand_34 rfl rfl ?_
        refine j_bipush (pc' := 37) (v := nI 58) dX6_readsCommand_35 rfl rfl ?_
        refine j_cVi (pc' := 40) m_X6_146 (c_X6_takes hs (by first | exact hL | (simp (disch := omega) only [pk_un]; exact hL)) hL8 (by first | exact hA0 | exact pk_us) (by repeat (first | exact hA | assumption | refine tkA_le ?_ (by first | assumption | decide) | exact wdE_le (wdP_le (by assumption)) | refine (nmF_le 5 0 (nI 0) _ ?_).2.1))) (by assumption) (by decide) rfl rfl rfl ⟨Nat.le_of_ble_eq_true rfl, Nat.le_of_ble_eq_true rfl⟩ ⟨Nat.zero_le _, Nat.zero_le _⟩ (Nat.le_of_ble_eq_true rfl) dX6_readsCommand_37 rfl (fun x1 I1 hq => ?_)
        obtain ⟨rfl, rfl⟩ := hq
        try rw [upd_upd]
        first | refine j_if_eqB' (tgt := 55) (pc' := 43) (by with_reducible rfl) dX6_readsCommand_40 rfl (by decide) (fun c40 => ?_) (fun c40 => ?_) | refine j_if_eqN' (tgt := 55) (pc' := 43) (by with_reducible rfl) (by omega) dX6_readsCommand_40 rfl (by decide) (fun c40 => ?_) (fun c40 => ?_) | refine j_if_eq (tgt := 55) (pc' := 43) dX6_readsCommand_40 rfl (by decide) (fun c40 => ?_) (fun c40 => ?_)
        ·
          refine j_iconst (pc' := 56) (v := nI 0) dX6_readsCommand_55 rfl rfl ?_
          refine j_reti dX6_readsCommand_56 rfl (by first | rfl | exact bi_n _) ?_
          unfold rdC
          first | rw [if_pos c4] | rw [if_neg c4] | rw [if_neg (by rw [c4]; decide)] | rw [if_pos (Int32.not_le.mp c4)] | rw [if_neg (Int32.not_lt.mpr c4)] | skip
          first | rw [if_pos c12] | rw [if_neg c12] | rw [if_neg (by rw [c12]; decide)] | rw [if_pos (Int32.not_le.mp c12)] | rw [if_neg (Int32.not_lt.mpr c12)] | skip
          first | rw [if_pos c31] | rw [if_neg c31] | rw [if_neg (by rw [c31]; decide)] | rw [if_pos (Int32.not_le.mp c31)] | rw [if_neg (Int32.not_lt.mpr c31)] | skip
          first | rw [if_pos c40] | rw [if_neg c40] | rw [if_neg (by rw [c40]; decide)] | rw [if_pos (Int32.not_le.mp c40)] | rw [if_neg (Int32.not_lt.mpr c40)] | skip
          refine ⟨?_, ?_⟩
          · first | rfl | exact bT (by assumption) | exact bi_F (by assumption)
          · first | rfl | (rw [upd_upd]; done)
        ·
          refine j_aload_n (pc' := 44) dX6_readsCommand_43 rfl rfl ?_
          refine j_iconst (pc' := 45) (v := nI 2) dX6_readsCommand_44 rfl rfl ?_
          refine j_cVi (pc' := 48) m_X6_159 (c_X6_number hs (by first | exact hL | (simp (disch := omega) only [pk_un]; exact hL)) hL8 (by first | exact hA0 | exact pk_us) (by repeat (first | exact hA | assumption | refine tkA_le ?_ (by first | assumption | decide) | exact wdE_le (wdP_le (by assumption)) | refine (nmF_le 5 0 (nI 0) _ ?_).2.1)) (by first | exact hD | (simp (disch := omega) only [pk_un]; exact hD)) hD2 (by decide)) (by assumption) (by decide) rfl rfl rfl ⟨Nat.le_of_ble_eq_true rfl, Nat.le_of_ble_eq_true rfl⟩ ⟨Nat.zero_le _, Nat.zero_le _⟩ (Nat.le_of_ble_eq_true rfl) dX6_readsCommand_45 rfl (fun x1 I1 hq => ?_)
          obtain ⟨rfl, rfl⟩ := hq
          try rw [upd_upd]
          first | refine j_if_eqB' (tgt := 55) (pc' := 51) (by with_reducible rfl) dX6_readsCommand_48 rfl (by decide) (fun c48 => ?_) (fun c48 => ?_) | refine j_if_eqN' (tgt := 55) (pc' := 51) (by with_reducible rfl) (by omega) dX6_readsCommand_48 rfl (by decide) (fun c48 => ?_) (fun c48 => ?_) | refine j_if_eq (tgt := 55) (pc' := 51) dX6_readsCommand_48 rfl (by decide) (fun c48 => ?_) (fun c48 => ?_)
          ·
            refine j_iconst (pc' := 56) (v := nI 0) dX6_readsCommand_55 rfl rfl ?_
            refine j_reti dX6_readsCommand_56 rfl (by first | rfl | exact bi_n _) ?_
            unfold rdC
            first | rw [if_pos c4] | rw [if_neg c4] | rw [if_neg (by rw [c4]; decide)] | rw [if_pos (Int32.not_le.mp c4)] | rw [if_neg (Int32.not_lt.mpr c4)] | skip
            first | rw [if_pos c12] | rw [if_neg c12] | rw [if_neg (by rw [c12]; decide)] | rw [if_pos (Int32.not_le.mp c12)] | rw [if_neg (Int32.not_lt.mpr c12)] | skip
            first | rw [if_pos c31] | rw [if_neg c31] | rw [if_neg (by rw [c31]; decide)] | rw [if_pos (Int32.not_le.mp c31)] | rw [if_neg (Int32.not_lt.mpr c31)] | skip
            first | rw [if_pos c40] | rw [if_neg c40] | rw [if_neg (by rw [c40]; decide)] | rw [if_pos (Int32.not_le.mp c40)] | rw [if_neg (Int32.not_lt.mpr c40)] | skip
            first | rw [if_pos c48] | rw [if_neg c48] | rw [if_neg (by rw [c48]; decide)] | rw [if_pos (Int32.not_le.mp c48)] | rw [if_neg (Int32.not_lt.mpr c48)] | skip
            refine ⟨?_, ?_⟩
            · first | rfl | exact bT (by assumption) | exact bi_F (by assumption)
            · first | rfl | (rw [upd_upd]; done)
          ·
            refine j_iconst (pc' := 52) (v := nI 1) dX6_readsCommand_51 rfl rfl ?_
            refine j_goto (tgt := 56) dX6_readsCommand_52 (by decide) ?_
            refine j_reti dX6_readsCommand_56 rfl (by first | rfl | exact bi_n _) ?_
            unfold rdC
            first | rw [if_pos c4] | rw [if_neg c4] | rw [if_neg (by rw [c4]; decide)] | rw [if_pos (Int32.not_le.mp c4)] | rw [if_neg (Int32.not_lt.mpr c4)] | skip
            first | rw [if_pos c12] | rw [if_neg c12] | rw [if_neg (by rw [c12]; decide)] | rw [if_pos (Int32.not_le.mp c12)] | rw [if_neg (Int32.not_lt.mpr c12)] | skip
            first | rw [if_pos c31] | rw [if_neg c31] | rw [if_neg (by rw [c31]; decide)] | rw [if_pos (Int32.not_le.mp c31)] | rw [if_neg (Int32.not_lt.mpr c31)] | skip
            first | rw [if_pos c40] | rw [if_neg c40] | rw [if_neg (by rw [c40]; decide)] | rw [if_pos (Int32.not_le.mp c40)] | rw [if_neg (Int32.not_lt.mpr c40)] | skip
            first | rw [if_pos c48] | rw [if_neg c48] | rw [if_neg (by rw [c48]; decide)] | rw [if_pos (Int32.not_le.mp c48)] | rw [if_neg (Int32.not_lt.mpr c48)] | skip
            refine ⟨?_, ?_⟩
            · first | rfl | exact bT (by assumption) | exact bi_F (by assumption)
            · first | rfl | (rw [upd_upd]; done)
    ·
      refine j_iconst (pc' := 16) (v := nI 0) dX6_readsCommand_15 rfl rfl ?_
      refine j_reti dX6_readsCommand_16 rfl (by first | rfl | exact bi_n _) ?_
      unfold rdC
      first | rw [if_pos c4] | rw [if_neg c4] | rw [if_neg (by rw [c4]; decide)] | rw [if_pos (Int32.not_le.mp c4)] | rw [if_neg (Int32.not_lt.mpr c4)] | skip
      first | rw [if_pos c12] | rw [if_neg c12] | rw [if_neg (by rw [c12]; decide)] | rw [if_pos (Int32.not_le.mp c12)] | rw [if_neg (Int32.not_lt.mpr c12)] | skip
      refine ⟨?_, ?_⟩
      · first | rfl | exact bT (by assumption) | exact bi_F (by assumption)
      · first | rfl | (rw [upd_upd]; done)

