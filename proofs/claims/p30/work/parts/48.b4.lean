theorem VI.add {v : Nat → Int32} {k T S N : Nat} {x y : Int32} (h : VI v k T S N) (hk : k < 16) (hx : okV x = true) (hy : decide (nI 1 ≤ y ∧ y ≤ nI 4) = true) : VI (fAdd v k x y) (k + 1) T S N := by
  have e : ∀ j, j ≠ 0 → j < 176 + 56 * k → fAdd v k x y j = v j := fun j h0 h1 => by
    unfold fAdd zeroP
    rw [pk_un (by omega), pk_un (by omega), pk_un (by omega), pk_un (by omega), pk_un (by omega), if_neg (by omega)]
  have ez : ∀ w, w < 56 → w ≠ 1 → w ≠ 5 → w ≠ 8 → w ≠ 10 → fAdd v k x y (176 + 56 * k + w) = 0 := fun w hw h1 h5 h8 h10 => by
    unfold fAdd zeroP
    rw [pk_un (by omega), pk_un (by omega), pk_un (by omega), pk_un (by omega), pk_un (by omega), if_pos (by omega)]
  have e1 : fAdd v k x y (176 + 56 * k + 1) = x := by unfold fAdd; simp (disch := omega) only [pk_us, pk_un]
  have e5 : fAdd v k x y (176 + 56 * k + 5) = y := by unfold fAdd; simp (disch := omega) only [pk_us, pk_un]
  have e8 : fAdd v k x y (176 + 56 * k + 8) = -1 := by unfold fAdd; simp (disch := omega) only [pk_us, pk_un]
  have e10 : fAdd v k x y (176 + 56 * k + 10) = nI 1 := by unfold fAdd; simp (disch := omega) only [pk_us, pk_un]
  refine ⟨?_, by omega, ?_, h.tl, ?_, ?_, ?_, h.sl, ?_, fun i hi w hw => ?_, ?_⟩
  · unfold fAdd; exact pk_us
  · rw [e 1 (by omega) (by omega)]; exact h.t
  · rw [e 2 (by omega) (by omega)]; exact h.m
  · rw [e 3 (by omega) (by omega)]; exact h.f
  · rw [e 5 (by omega) (by omega)]; exact h.s
  · rw [e 9 (by omega) (by omega)]; exact h.n
  · by_cases hik : i < k
    · rw [e _ (by omega) (by omega)]
      exact h.p hik w hw
    · have hi2 : i = k := by omega
      subst hi2
      by_cases h1 : w = 1
      · subst h1; rw [e1]; exact okW_st (by omega) hx
      · by_cases h5 : w = 5
        · subst h5; rw [e5]; exact okW_st (by omega) hy
        · by_cases h8 : w = 8
          · subst h8; exact okW_free (by omega)
          · by_cases h10 : w = 10
            · subst h10; rw [e10]; exact okW_10 ⟨true, rfl⟩
            · rw [ez w hw h1 h5 h8 h10]
              have hcase : w < 7 ∨ w = 9 ∨ w = 12 ∨ w = 13 ∨ w = 15 ∨ (w = 7 ∨ w = 8 ∨ w = 11 ∨ w = 14 ∨ 16 ≤ w) := by omega
              rcases hcase with h7 | rfl | rfl | rfl | rfl | h7
              · refine okW_st h7 ?_
                have : w = 0 ∨ w = 2 ∨ w = 3 ∨ w = 4 ∨ w = 6 := by omega
                rcases this with rfl | rfl | rfl | rfl | rfl <;> rfl
              · exact okW_9 ⟨false, rfl⟩
              · exact okW_12 (l := 0) (by omega) rfl
              · exact okW_13 (u := 0) (by omega) rfl
              · exact okW_15 (K := 0) (by omega) rfl
              · exact okW_free h7
  · obtain ⟨rk, hr⟩ := h.r
    refine ⟨fun i => if i < k then rk i else 0, fun i hi => ?_⟩
    by_cases hik : i < k
    · have := hr i hik
      dsimp only
      rw [e _ (by omega) (by omega), if_pos hik]
      refine ⟨this.1, this.2.imp id (fun ⟨j, h1, h2, h3⟩ => ⟨j, by omega, h2, by rw [if_pos h1]; exact h3⟩)⟩
    · have hi2 : i = k := by omega
      subst hi2
      dsimp only
      rw [e8, if_neg (by omega)]
      exact ⟨by omega, Or.inl rfl⟩
/-- a point more: its cells as begin() leaves them, the number one higher -/
theorem aS.add {I0 I I2 : jx_I} {q : Nat} {v : Nat → Int32} {k T S N : Nat} {x y : Int32} (h : aS I0 I q v k T S N) (hk : k < 16) (hx : okV x = true) (hy : decide (nI 1 ≤ y ∧ y ≤ nI 4) = true) (hI : ∀ b, b ≠ q + 8 + 3 * k → b ≠ q + 8 + 3 * k + 1 → I2 b = I b) (hst : ∀ j, j < 7 → I2 (q + 8 + 3 * k + 1) j = if j = 1 then x else if j = 5 then y else 0) (h2 : I2 (q + 8 + 3 * k) 2 = 0) (h3 : I2 (q + 8 + 3 * k) 3 = 0) (h4 : I2 (q + 8 + 3 * k) 4 = -1) (h5 : I2 (q + 8 + 3 * k) 5 = 0) (h6 : I2 (q + 8 + 3 * k) 6 = 1) (h7 : I2 (q + 8 + 3 * k) 7 = 0) (h8 : I2 (q + 8 + 3 * k) 8 = 0) (h9 : I2 (q + 8 + 3 * k) 9 = 0) (h10 : I2 (q + 8 + 3 * k) 10 = 0) : aS I0 (jx_up I2 q 3 (nI (k + 1))) q (fAdd v k x y) (k + 1) T S N := by
  have e : ∀ j, j ≠ 0 → j < 176 + 56 * k → fAdd v k x y j = v j := fun j h0 h1 => by
    unfold fAdd zeroP
    rw [pk_un (by omega), pk_un (by omega), pk_un (by omega), pk_un (by omega), pk_un (by omega), if_neg (by omega)]
  have ez : ∀ w, w < 56 → w ≠ 1 → w ≠ 5 → w ≠ 8 → w ≠ 10 → fAdd v k x y (176 + 56 * k + w) = 0 := fun w hw h1 h5 h8 h10 => by
    unfold fAdd zeroP
    rw [pk_un (by omega), pk_un (by omega), pk_un (by omega), pk_un (by omega), pk_un (by omega), if_pos (by omega)]
  have e0 : fAdd v k x y 0 = nI (k + 1) := by unfold fAdd; exact pk_us
  have e1 : fAdd v k x y (176 + 56 * k + 1) = x := by unfold fAdd; simp (disch := omega) only [pk_us, pk_un]
  have e5 : fAdd v k x y (176 + 56 * k + 5) = y := by unfold fAdd; simp (disch := omega) only [pk_us, pk_un]
  have e8 : fAdd v k x y (176 + 56 * k + 8) = -1 := by unfold fAdd; simp (disch := omega) only [pk_us, pk_un]
  have e10 : fAdd v k x y (176 + 56 * k + 10) = nI 1 := by unfold fAdd; simp (disch := omega) only [pk_us, pk_un]
  have hJ : ∀ b, b ≠ q → b ≠ q + 8 + 3 * k → b ≠ q + 8 + 3 * k + 1 → jx_up I2 q 3 (nI (k + 1)) b = I b := fun b a1 a2 a3 => by
    rw [← hI b a2 a3]
    exact funext fun _ => jx_upA a1
  refine ⟨⟨?_, ?_, ?_, ?_, fun i hi => ?_⟩, h.vi.add hk hx hy, fun b hb => ?_⟩
  · rw [jx_upS, jx_upK (by omega), jx_upK (by omega), jx_upK (by omega), jx_upK (by omega), jx_upK (by omega), hI q (by omega) (by omega), e0, e 1 (by omega) (by omega), e 2 (by omega) (by omega), e 8 (by omega) (by omega), e 10 (by omega) (by omega), e 11 (by omega) (by omega)]
    exact ⟨rfl, h.tim, h.mod, h.act, h.akt, h.aks⟩
  · rw [hJ (q + 2) (by omega) (by omega) (by omega), e 3 (by omega) (by omega), e 4 (by omega) (by omega), e 5 (by omega) (by omega), e 6 (by omega) (by omega), e 7 (by omega) (by omega)]
    exact ⟨h.f1, h.f2, h.f3, h.f4, h.f5⟩
  · exact rgR_ext h.rg (hJ _ (by omega) (by omega) (by omega)) (fun j _ _ => e j (by omega) (by omega))
  · exact aLg_ext h.lg (fun b _ _ => hJ b (by omega) (by omega) (by omega)) (e 9 (by omega) (by omega)) (fun j _ _ => e j (by omega) (by omega))
  · by_cases hik : i < k
    · exact aPt_ext (h.pt hik) (fun b _ _ => hJ b (by omega) (by omega) (by omega)) (fun w hw => e _ (by omega) (by omega))
    · have hi2 : i = k := by omega
      subst hi2
      have s : ∀ j, jx_up I2 q 3 (nI (i + 1)) (q + 8 + 3 * i) j = I2 (q + 8 + 3 * i) j := fun j => jx_upA (by omega)
      refine ⟨fun j hj => ?_, ?_, ?_, ?_, ?_, ?_, ?_, ?_, ?_, ?_, fun j hj hk2 => ?_⟩
      · rw [jx_upA (by omega), hst j hj]
        by_cases a1 : j = 1
        · subst a1; rw [if_pos rfl, e1]
        · rw [if_neg a1]
          by_cases a5 : j = 5
          · subst a5; rw [if_pos rfl, e5]
          · rw [if_neg a5, ez j (by omega) a1 a5 (by omega) (by omega)]
      · rw [s, h2, ez 15 (by omega) (by omega) (by omega) (by omega) (by omega)]
      · rw [s, h3, ez 7 (by omega) (by omega) (by omega) (by omega) (by omega)]
      · rw [s, h4, e8]
      · rw [s, h5, ez 9 (by omega) (by omega) (by omega) (by omega) (by omega)]
      · rw [s, h6, e10]; rfl
      · rw [s, h7, ez 11 (by omega) (by omega) (by omega) (by omega) (by omega)]
      · rw [s, h8, ez 12 (by omega) (by omega) (by omega) (by omega) (by omega)]
      · rw [s, h9, ez 13 (by omega) (by omega) (by omega) (by omega) (by omega)]
      · rw [s, h10, ez 14 (by omega) (by omega) (by omega) (by omega) (by omega)]
      · rw [ez 15 (by omega) (by omega) (by omega) (by omega) (by omega)] at hk2
        exact absurd hk2 (Nat.not_lt_zero j)
  · rw [hJ b (by omega) (by omega) (by omega)]
    exact h.fr b hb

set_option maxRecDepth 100000 in
set_option maxHeartbeats 4000000 in
theorem c_X4_addPoint {E : jx_E} {l : Launch} {n : Nat} {kd : jx_K} {R : jx_R} {I0 I : jx_I} {q : Nat} {v : Nat → Int32} {k T S N : Nat} {x y : Int32} (hs : sSt kd R q) (h : aS I0 I q v k T S N)  : jx_Ci E l yX4_addPoint cX4_addPoint 3 (some .int) 1 n kd R (I) [.ref q, .int x, .int y] (fun r I' => r = (if okV x = true ∧ decide (nI 1 ≤ y ∧ y ≤ nI 4) = true then if k = 16 then -20003 else nI k else -20001) ∧ ∃ k', aS I0 I' q (if (okV x = true ∧ decide (nI 1 ≤ y ∧ y ≤ nI 4) = true) ∧ ¬ k = 16 then fAdd v k x y else v) k' T S N) := by
  obtain ⟨K0, K1, R0, R1, R2, hF, hL, hP⟩ := id hs
  obtain ⟨FK0, FK1, FR0⟩ := id hF
  obtain ⟨LK0, LK1, LK2, LK3, LR0, LR1, LR2⟩ := id hL
  have h16 := h.vi.k16
  have hT1 := h.vi.tl
  have hS1 := h.vi.sl
  refine jx_C0.ofJ RX4 [some (.ref q), some (.int x), some (.int y)] (by decide) rfl rfl (Nat.le_of_ble_eq_true rfl) rfl ?_
  refine j_iload_n (pc' := 1) dX4_addPoint_0 rfl rfl ?_
  refine j_sipush (pc' := 4) (v := -10000) dX4_addPoint_1 rfl rfl ?_
  refine j_sipush (pc' := 7) (v := nI 10000) dX4_addPoint_4 rfl rfl ?_
  refine j_cSNi (pc' := 10) m_X4_61 (c_X5_isIn _ _ _ _ _ _ _ _ _) rfl rfl ⟨Nat.le_of_ble_eq_true rfl, Nat.le_of_ble_eq_true rfl⟩ ⟨Nat.zero_le _, Nat.zero_le _⟩ (Nat.le_of_ble_eq_true rfl) dX4_addPoint_7 rfl (fun x1 I1 hq => ?_)
  obtain ⟨rfl, rfl⟩ := hq
  first | refine j_if_eqB' (tgt := 22) (pc' := 13) (by with_reducible rfl) dX4_addPoint_10 rfl (by decide) (fun c10 => ?_) (fun c10 => ?_) | refine j_if_eqN' (tgt := 22) (pc' := 13) (by with_reducible rfl) (by omega) dX4_addPoint_10 rfl (by decide) (fun c10 => ?_) (fun c10 => ?_) | refine j_if_eq (tgt := 22) (pc' := 13) dX4_addPoint_10 rfl (by decide) (fun c10 => ?_) (fun c10 => ?_)
  ·
    refine j_sipush (pc' := 25) (v := -20001) dX4_addPoint_22 rfl rfl ?_
    refine j_reti dX4_addPoint_25 rfl (by first | rfl | exact bi_n _) ?_
    rw [if_neg (fun z => by have := z.1; rw [show okV x = false from c10] at this; exact absurd this (by decide)), if_neg (fun z => (fun z => by have := z.1; rw [show okV x = false from c10] at this; exact absurd this (by decide)) z.1)]
    exact ⟨rfl, k, h⟩
  ·
    refine j_iload_n (pc' := 14) dX4_addPoint_13 rfl rfl ?_
    refine j_iconst (pc' := 15) (v := nI 1) dX4_addPoint_14 rfl rfl ?_
    refine j_iconst (pc' := 16) (v := nI 4) dX4_addPoint_15 rfl rfl ?_
    refine j_cSNi (pc' := 19) m_X4_61 (c_X5_isIn _ _ _ _ _ _ _ _ _) rfl rfl ⟨Nat.le_of_ble_eq_true rfl, Nat.le_of_ble_eq_true rfl⟩ ⟨Nat.zero_le _, Nat.zero_le _⟩ (Nat.le_of_ble_eq_true rfl) dX4_addPoint_16 rfl (fun x1 I1 hq => ?_)
    obtain ⟨rfl, rfl⟩ := hq
    first | refine j_if_neB' (tgt := 26) (pc' := 22) (by with_reducible rfl) dX4_addPoint_19 rfl (by decide) (fun c19 => ?_) (fun c19 => ?_) | refine j_if_neN' (tgt := 26) (pc' := 22) (by with_reducible rfl) (by omega) dX4_addPoint_19 rfl (by decide) (fun c19 => ?_) (fun c19 => ?_) | refine j_if_ne (tgt := 26) (pc' := 22) dX4_addPoint_19 rfl (by decide) (fun c19 => ?_) (fun c19 => ?_)
    ·
      refine j_aload_n (pc' := 27) dX4_addPoint_26 rfl rfl ?_
      refine j_getIv (pc' := 30) f_X4_32 (by assumption) (by first | (simp (disch := omega) only [jx_upS, jx_upK, jx_upA, h.num, h.tim, h.mod, h.act, h.akt, h.aks, h.f1, h.f2, h.f3, h.f4, h.f5, h.vi.z]; rfl) | rfl) dX4_addPoint_27 rfl ?_
      refine j_bipush (pc' := 32) (v := nI 16) dX4_addPoint_30 rfl rfl ?_
      first | refine j_icmp_ltN' (tgt := 39) (pc' := 35) (by with_reducible rfl) (by with_reducible rfl) (by omega) (by omega) dX4_addPoint_32 rfl (by decide) (fun c32 => ?_) (fun c32 => ?_) | refine j_icmp_lt (tgt := 39) (pc' := 35) dX4_addPoint_32 rfl (by decide) (fun c32 => ?_) (fun c32 => ?_)
      ·
        have hk16 : k < 16 := by omega
        obtain ⟨hRi, hPi⟩ := hP k hk16
        obtain ⟨P0, P1, P2, PR0, PR1⟩ := id hPi
        refine j_aload_n (pc' := 40) dX4_addPoint_39 rfl rfl ?_
        refine j_getR (pc' := 43) f_X4_11 (by assumption) (by assumption) dX4_addPoint_40 rfl ?_
        refine j_aload_n (pc' := 44) dX4_addPoint_43 rfl rfl ?_
        refine j_getIv (pc' := 47) f_X4_32 (by assumption) (by first | (simp (disch := omega) only [jx_upS, jx_upK, jx_upA, h.num, h.tim, h.mod, h.act, h.akt, h.aks, h.f1, h.f2, h.f3, h.f4, h.f5, h.vi.z]; rfl) | rfl) dX4_addPoint_44 rfl ?_
        first | refine j_aaldP (pc' := 48) (by assumption) rfl (by omega) (by omega) (by first | assumption | (simp (disch := omega) only [h.num, h.tim, h.mod, h.act, h.akt, h.aks, h.f1, h.f2, h.f3, h.f4, h.f5, h.vi.z]; done)) dX4_addPoint_47 rfl ?_ | refine j_aaldS (pc' := 48) (by assumption) rfl (by omega) (by omega) (by assumption) dX4_addPoint_47 rfl ?_
        refine j_iload_n (pc' := 49) dX4_addPoint_48 rfl rfl ?_
        refine j_iload_n (pc' := 50) dX4_addPoint_49 rfl rfl ?_
        refine j_cVv (pc' := 53) m_X4_65 (c_X2_begin hPi) (by assumption) (by decide) rfl rfl rfl ⟨Nat.le_of_ble_eq_true rfl, Nat.le_of_ble_eq_true rfl⟩ ⟨Nat.zero_le _, Nat.zero_le _⟩ (Nat.le_of_ble_eq_true rfl) dX4_addPoint_50 rfl (fun I1 hq => ?_)
        obtain ⟨hbI, hbs, hb2, hb3, hb4, hb5, hb6, hb7, hb8, hb9, hb10⟩ := hq
        have hbn : I1 q 3 = nI k := by rw [hbI q (by omega) (by omega), h.num, h.vi.z]
        refine j_aload_n (pc' := 54) dX4_addPoint_53 rfl rfl ?_
        refine j_dup (pc' := 55) dX4_addPoint_54 rfl rfl ?_
        refine j_getIv (pc' := 58) f_X4_32 (by assumption) (by first | (simp (disch := omega) only [jx_upS, jx_upK, jx_upA, hbn]; rfl) | rfl) dX4_addPoint_55 rfl ?_
        refine j_iconst (pc' := 59) (v := nI 1) dX4_addPoint_58 rfl rfl ?_
        first | refine j_iaddN' (pc' := 60) (by with_reducible rfl) (by with_reducible rfl) dX4_addPoint_59 rfl ?_ | refine j_iadd (pc' := 60) dX4_addPoint_59 rfl ?_
        refine j_putI (pc' := 63) f_X4_32 (by assumption) rfl rfl dX4_addPoint_60 rfl ?_
        refine j_aload_n (pc' := 64) dX4_addPoint_63 rfl rfl ?_
        refine j_getIv (pc' := 67) f_X4_32 (by assumption) (by first | (simp (disch := omega) only [jx_upS, jx_upK, jx_upA, hbn]; rfl) | rfl) dX4_addPoint_64 rfl ?_
        refine j_iconst (pc' := 68) (v := nI 1) dX4_addPoint_67 rfl rfl ?_
        first | refine j_isubN' (pc' := 69) (by with_reducible rfl) (by with_reducible rfl) (by omega) dX4_addPoint_68 rfl ?_ | refine j_isub (pc' := 69) dX4_addPoint_68 rfl ?_
        refine j_reti dX4_addPoint_69 rfl (by first | rfl | exact bi_n _) ?_
        rw [if_pos ⟨c10, c19⟩, if_neg (by omega), if_pos ⟨⟨c10, c19⟩, by omega⟩]
        exact ⟨rfl, k + 1, h.add (by omega) c10 c19 hbI hbs hb2 hb3 hb4 hb5 hb6 hb7 hb8 hb9 hb10⟩
      ·
        refine j_sipush (pc' := 38) (v := -20003) dX4_addPoint_35 rfl rfl ?_
        refine j_reti dX4_addPoint_38 rfl (by first | rfl | exact bi_n _) ?_
        have e : k = 16 := by omega
        rw [if_pos ⟨c10, c19⟩, if_pos e, if_neg (fun z => z.2 e)]
        exact ⟨rfl, k, h⟩
    ·
      refine j_sipush (pc' := 25) (v := -20001) dX4_addPoint_22 rfl rfl ?_
      refine j_reti dX4_addPoint_25 rfl (by first | rfl | exact bi_n _) ?_
      rw [if_neg (fun z => by have := z.2; rw [c19] at this; exact absurd this (by decide)), if_neg (fun z => (fun z => by have := z.2; rw [c19] at this; exact absurd this (by decide)) z.1)]
      exact ⟨rfl, k, h⟩

