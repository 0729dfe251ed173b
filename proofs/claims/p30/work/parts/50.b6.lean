theorem mod_ne {t T m : Nat} (h1 : t < T) (h2 : T < t + m) (hm : 0 < m) : t % m ≠ T % m := fun e => by
  have a := Nat.div_add_mod t m
  have b := Nat.div_add_mod T m
  rw [e] at a
  have hd : t / m = T / m ∨ t / m + 1 ≤ T / m := by
    have : t / m ≤ T / m := Nat.div_le_div_right (by omega)
    omega
  rcases hd with hd | hd
  · rw [hd] at a; omega
  · have : m * (t / m + 1) ≤ m * (T / m) := Nat.mul_le_mul_left m hd
    rw [Nat.mul_add, Nat.mul_one] at this
    omega
theorem aS.rga {I0 I : jx_I} {q : Nat} {v : Nat → Int32} {k T S N : Nat} (h : aS I0 I q v k T S N) (hT : 1 ≤ T) : aS I0 (jx_up I (q + 2 + 1) (T % 60) (I (q + 2 + 1) (T % 60) + nI 1)) q (upd v (16 + T % 64) (v (16 + T % 64) + nI 1)) k T S N := by
  have h64 : T % 64 < 64 := Nat.mod_lt _ (by decide)
  refine ⟨aSt_rg h.1 (fun b hb => funext fun _ => jx_upA hb) (fun j hj => pk_un (by omega)) (fun t a1 a2 a3 => ?_), h.vi.lo (by omega) (by omega), h.fr.up (by omega) (by omega)⟩
  by_cases e : t = T
  · subst e
    rw [jx_upS, pk_us, h.rg t a1 a2 a3]
  · have m1 := mod_ne (t := t) (T := T) (m := 60) (by omega) (by omega) (by decide)
    have m2 := mod_ne (t := t) (T := T) (m := 64) (by omega) (by omega) (by decide)
    rw [jx_upK m1, pk_un (by omega)]
    exact h.rg t a1 a2 a3
theorem aS.opn {I0 I : jx_I} {q : Nat} {v : Nat → Int32} {k T S N : Nat} (h : aS I0 I q v k T S N) (hT : T + 1 ≤ 10000) : aS I0 (jx_up (jx_up I q 4 (nI (T + 1))) (q + 2 + 1) ((T + 1) % 60) (nI 0)) q (tk0 v T) k (T + 1) S N := by
  have h64 : (T + 1) % 64 < 64 := Nat.mod_lt _ (by decide)
  have hJ : ∀ b, b ≠ q → b ≠ q + 2 + 1 → jx_up (jx_up I q 4 (nI (T + 1))) (q + 2 + 1) ((T + 1) % 60) (nI 0) b = I b := fun b a1 a2 => funext fun _ => by rw [jx_upA a2, jx_upA a1]
  have e : ∀ j, j ≠ 1 → j < 16 ∨ 80 ≤ j → tk0 v T j = v j := fun j a b => tk0_o a b
  refine ⟨⟨?_, ?_, fun t a1 a2 a3 => ?_, ?_, fun i hi => ?_⟩, (h.vi.w1 (by omega) hT rfl).lo (by omega) (by omega), (h.fr.up (by omega) (by omega)).up (by omega) (by omega)⟩
  · simp (disch := omega) only [jx_upS, jx_upK, jx_upA, e, tk0_1]
    exact ⟨h.num, trivial, h.mod, h.act, h.akt, h.aks⟩
  · rw [hJ (q + 2) (by omega) (by omega), e 3 (by omega) (by omega), e 4 (by omega) (by omega), e 5 (by omega) (by omega), e 6 (by omega) (by omega), e 7 (by omega) (by omega)]
    exact ⟨h.f1, h.f2, h.f3, h.f4, h.f5⟩
  · by_cases et : t = T + 1
    · subst et
      rw [jx_upS]
      unfold tk0
      rw [pk_us]
    · have m1 := mod_ne (t := t) (T := T + 1) (m := 60) (by omega) (by omega) (by decide)
      have m2 := mod_ne (t := t) (T := T + 1) (m := 64) (by omega) (by omega) (by decide)
      rw [jx_upK m1, jx_upA (by omega), h.rg t a1 (by omega) (by omega)]
      unfold tk0
      rw [pk_un (by omega), pk_un (by omega)]
  · exact aLg_ext h.lg (fun b _ _ => hJ b (by omega) (by omega)) (e 9 (by omega) (by omega)) (fun j _ _ => e j (by omega) (by omega))
  · exact aPt_ext (h.pt hi) (fun b _ _ => hJ b (by omega) (by omega)) (fun w _ => e _ (by omega) (by omega))
theorem aS.pv {I0 I : jx_I} {q : Nat} {v : Nat → Int32} {k T S N : Nat} {a K : Nat} {x : Int32} (h : aS I0 I q v k T S N) (ha : a < k) (hK : v (176 + 56 * a + 15) = nI K) (hK1 : K ≤ 100000) (hv : VI (upd (upd v (176 + 56 * a + (16 + K % 40)) x) (176 + 56 * a + 15) (nI (K + 1))) k T S N) : aS I0 (jx_up (jx_up I (q + 8 + 3 * a + 2) (K % 40) x) (q + 8 + 3 * a) 2 (nI (K + 1))) q (upd (upd v (176 + 56 * a + (16 + K % 40)) x) (176 + 56 * a + 15) (nI (K + 1))) k T S N := by
  have hm : K % 40 < 40 := Nat.mod_lt _ (by decide)
  have := h.vi.k16
  exact ⟨aSt_pt h.1 (fun b hb => funext fun _ => by rw [jx_upA (by omega), jx_upA (by omega)]) (fun j hj => by rw [pk_un (by omega), pk_un (by omega)]) (fun _ => aPt_v hK hK1 (h.pt ha)), hv, (h.fr.up (by omega) (by omega)).up (by omega) (by omega)⟩

set_option maxRecDepth 100000 in
set_option maxHeartbeats 4000000 in
theorem c_X4_activate {E : jx_E} {l : Launch} {n : Nat} {kd : jx_K} {R : jx_R} {I0 I : jx_I} {q : Nat} {v : Nat → Int32} {k T S N : Nat} {i : Nat} (hs : sSt kd R q) (h : aS I0 I q v k T S N) (hi : i < k) (hT0 : 1 ≤ T) (hNb : N + 100 < 2147483000) : jx_Cv E l yX4_activate cX4_activate 3 none 2 n kd R (I) [.ref q, .int (nI i)] (fun I' => aS I0 I' q (sHap (upd (upd (upd (upd (upd (upd v (176 + 56 * i + 9) (nI 1)) (176 + 56 * i + 10) (nI 0)) (176 + 56 * i + 12) (nI T)) (176 + 56 * i + 14) (v (176 + 56 * i + 14) + nI 1)) 8 (v 8 + nI 1)) (16 + T % 64) (v (16 + T % 64) + nI 1)) (nI 1) (nI i)) k T S (N + 1)) := by
  obtain ⟨K0, K1, R0, R1, R2, hF, hL, hP⟩ := id hs
  obtain ⟨FK0, FK1, FR0⟩ := id hF
  obtain ⟨LK0, LK1, LK2, LK3, LR0, LR1, LR2⟩ := id hL
  have h16 := h.vi.k16
  have hT1 := h.vi.tl
  have hS1 := h.vi.sl
  obtain ⟨hRi, hPi⟩ := hP i (by omega)
  obtain ⟨P0, P1, P2, PR0, PR1⟩ := id hPi
  have ht1 := h.vi.t
  have h64 : T % 64 < 64 := Nat.mod_lt _ (by decide)
  refine jx_C0.ofJ RX4 [some (.ref q), some (.int (nI i)), none] (by decide) rfl rfl (Nat.le_of_ble_eq_true rfl) rfl ?_
  refine j_aload_n (pc' := 1) dX4_activate_0 rfl rfl ?_
  refine j_getR (pc' := 4) f_X4_11 (by assumption) (by assumption) dX4_activate_1 rfl ?_
  refine j_iload_n (pc' := 5) dX4_activate_4 rfl rfl ?_
  first | refine j_aaldP (pc' := 6) (by assumption) rfl (by omega) (by omega) (by first | assumption | (simp (disch := omega) only [h.num, h.tim, h.mod, h.act, h.akt, h.aks, h.f1, h.f2, h.f3, h.f4, h.f5, (h.pt hi).2.2.1, (h.pt hi).2.2.2.1, (h.pt hi).2.2.2.2.1, (h.pt hi).2.2.2.2.2.1, (h.pt hi).2.2.2.2.2.2.1, (h.pt hi).2.2.2.2.2.2.2.1, (h.pt hi).2.2.2.2.2.2.2.2.1, (h.pt hi).2.2.2.2.2.2.2.2.2.1, pk_us, pk_un, ht1]; done)) dX4_activate_5 rfl ?_ | refine j_aaldS (pc' := 6) (by assumption) rfl (by omega) (by omega) (by assumption) dX4_activate_5 rfl ?_
  refine j_astore_n (pc' := 7) (lv' := [_, _, _]) dX4_activate_6 rfl (by decide) rfl ?_
  refine j_aload_n (pc' := 8) dX4_activate_7 rfl rfl ?_
  refine j_iconst (pc' := 9) (v := nI 1) dX4_activate_8 rfl rfl ?_
  refine j_putI (pc' := 12) f_X4_137 (by assumption) (by first | rfl | exact bi_n _) (by first | rfl | exact bi_fit _) dX4_activate_9 rfl ?_
  refine j_gen (h.p5 hi (okW_9 ⟨true, rfl⟩)) (fun I1 h => ?_)
  refine j_aload_n (pc' := 13) dX4_activate_12 rfl rfl ?_
  refine j_iconst (pc' := 14) (v := nI 0) dX4_activate_13 rfl rfl ?_
  refine j_putI (pc' := 17) f_X4_152 (by assumption) (by first | rfl | exact bi_n _) (by first | rfl | exact bi_fit _) dX4_activate_14 rfl ?_
  refine j_gen (h.p6 hi (okW_10 ⟨false, rfl⟩)) (fun I1 h => ?_)
  refine j_aload_n (pc' := 18) dX4_activate_17 rfl rfl ?_
  refine j_aload_n (pc' := 19) dX4_activate_18 rfl rfl ?_
  refine j_getIv (pc' := 22) f_X4_46 (by assumption) (by first | (simp (disch := omega) only [jx_upS, jx_upK, jx_upA, h.num, h.tim, h.mod, h.act, h.akt, h.aks, h.f1, h.f2, h.f3, h.f4, h.f5, (h.pt hi).2.2.1, (h.pt hi).2.2.2.1, (h.pt hi).2.2.2.2.1, (h.pt hi).2.2.2.2.2.1, (h.pt hi).2.2.2.2.2.2.1, (h.pt hi).2.2.2.2.2.2.2.1, (h.pt hi).2.2.2.2.2.2.2.2.1, (h.pt hi).2.2.2.2.2.2.2.2.2.1, pk_us, pk_un, ht1]; rfl) | rfl) dX4_activate_19 rfl ?_
  refine j_putI (pc' := 25) f_X4_155 (by assumption) rfl rfl dX4_activate_22 rfl ?_
  refine j_gen (h.p8 hi (okW_12 (Nat.le_refl _) rfl)) (fun I1 h => ?_)
  refine j_aload_n (pc' := 26) dX4_activate_25 rfl rfl ?_
  refine j_dup (pc' := 27) dX4_activate_26 rfl rfl ?_
  refine j_getIv (pc' := 30) f_X4_158 (by assumption) (by first | (simp (disch := omega) only [jx_upS, jx_upK, jx_upA, h.num, h.tim, h.mod, h.act, h.akt, h.aks, h.f1, h.f2, h.f3, h.f4, h.f5, (h.pt hi).2.2.1, (h.pt hi).2.2.2.1, (h.pt hi).2.2.2.2.1, (h.pt hi).2.2.2.2.2.1, (h.pt hi).2.2.2.2.2.2.1, (h.pt hi).2.2.2.2.2.2.2.1, (h.pt hi).2.2.2.2.2.2.2.2.1, (h.pt hi).2.2.2.2.2.2.2.2.2.1, pk_us, pk_un, ht1]; rfl) | rfl) dX4_activate_27 rfl ?_
  refine j_iconst (pc' := 31) (v := nI 1) dX4_activate_30 rfl rfl ?_
  refine j_iadd (pc' := 32) dX4_activate_31 rfl ?_
  refine j_putI (pc' := 35) f_X4_158 (by assumption) rfl rfl dX4_activate_32 rfl ?_
  refine j_gen (h.p10 hi (okW_free (by omega))) (fun I1 h => ?_)
  refine j_aload_n (pc' := 36) dX4_activate_35 rfl rfl ?_
  refine j_dup (pc' := 37) dX4_activate_36 rfl rfl ?_
  refine j_getIv (pc' := 40) f_X4_52 (by assumption) (by first | (simp (disch := omega) only [jx_upS, jx_upK, jx_upA, h.num, h.tim, h.mod, h.act, h.akt, h.aks, h.f1, h.f2, h.f3, h.f4, h.f5, (h.pt hi).2.2.1, (h.pt hi).2.2.2.1, (h.pt hi).2.2.2.2.1, (h.pt hi).2.2.2.2.2.1, (h.pt hi).2.2.2.2.2.2.1, (h.pt hi).2.2.2.2.2.2.2.1, (h.pt hi).2.2.2.2.2.2.2.2.1, (h.pt hi).2.2.2.2.2.2.2.2.2.1, pk_us, pk_un, ht1]; rfl) | rfl) dX4_activate_37 rfl ?_
  refine j_iconst (pc' := 41) (v := nI 1) dX4_activate_40 rfl rfl ?_
  refine j_iadd (pc' := 42) dX4_activate_41 rfl ?_
  refine j_putI (pc' := 45) f_X4_52 (by assumption) rfl rfl dX4_activate_42 rfl ?_
  refine j_gen (h.q6) (fun I1 h => ?_)
  refine j_aload_n (pc' := 46) dX4_activate_45 rfl rfl ?_
  refine j_getR (pc' := 49) f_X4_20 (by assumption) (by assumption) dX4_activate_46 rfl ?_
  refine j_aload_n (pc' := 50) dX4_activate_49 rfl rfl ?_
  refine j_getIv (pc' := 53) f_X4_46 (by assumption) (by first | (simp (disch := omega) only [jx_upS, jx_upK, jx_upA, h.num, h.tim, h.mod, h.act, h.akt, h.aks, h.f1, h.f2, h.f3, h.f4, h.f5, (h.pt hi).2.2.1, (h.pt hi).2.2.2.1, (h.pt hi).2.2.2.2.1, (h.pt hi).2.2.2.2.2.1, (h.pt hi).2.2.2.2.2.2.1, (h.pt hi).2.2.2.2.2.2.2.1, (h.pt hi).2.2.2.2.2.2.2.2.1, (h.pt hi).2.2.2.2.2.2.2.2.2.1, pk_us, pk_un, ht1]; rfl) | rfl) dX4_activate_50 rfl ?_
  refine j_cVv (pc' := 56) m_X4_159 (c_X0_addActivation hF (by omega)) (by assumption) (by decide) rfl rfl rfl ⟨Nat.le_of_ble_eq_true rfl, Nat.le_of_ble_eq_true rfl⟩ ⟨Nat.zero_le _, Nat.zero_le _⟩ (Nat.le_of_ble_eq_true rfl) dX4_activate_53 rfl (fun I1 hq => ?_)
  subst hq
  refine j_gen (h.rga hT0) (fun I1 h => ?_)
  rw [show (upd (upd (upd (upd (upd v (176 + 56 * i + 9) (nI 1)) (176 + 56 * i + 10) (nI 0)) (176 + 56 * i + 12) (nI T)) (176 + 56 * i + 14) (v (176 + 56 * i + 14) + nI 1)) 8 (v 8 + nI 1)) (16 + T % 64) = v (16 + T % 64) from by simp (disch := omega) only [pk_us, pk_un]] at h
  refine j_aload_n (pc' := 57) dX4_activate_56 rfl rfl ?_
  refine j_getR (pc' := 60) f_X4_27 (by assumption) (by assumption) dX4_activate_57 rfl ?_
  refine j_aload_n (pc' := 61) dX4_activate_60 rfl rfl ?_
  refine j_getIv (pc' := 64) f_X4_46 (by assumption) (by first | (simp (disch := omega) only [jx_upS, jx_upK, jx_upA, h.num, h.tim, h.mod, h.act, h.akt, h.aks, h.f1, h.f2, h.f3, h.f4, h.f5, (h.pt hi).2.2.1, (h.pt hi).2.2.2.1, (h.pt hi).2.2.2.2.1, (h.pt hi).2.2.2.2.2.1, (h.pt hi).2.2.2.2.2.2.1, (h.pt hi).2.2.2.2.2.2.2.1, (h.pt hi).2.2.2.2.2.2.2.2.1, (h.pt hi).2.2.2.2.2.2.2.2.2.1, pk_us, pk_un, ht1]; rfl) | rfl) dX4_activate_61 rfl ?_
  refine j_iconst (pc' := 65) (v := nI 1) dX4_activate_64 rfl rfl ?_
  refine j_iload_n (pc' := 66) dX4_activate_65 rfl rfl ?_
  refine j_cVv (pc' := 69) m_X4_145 (c_X1_write hL (h.lg.1.trans h.vi.n) (by omega)) (by assumption) (by decide) rfl rfl rfl ⟨Nat.le_of_ble_eq_true rfl, Nat.le_of_ble_eq_true rfl⟩ ⟨Nat.zero_le _, Nat.zero_le _⟩ (Nat.le_of_ble_eq_true rfl) dX4_activate_66 rfl (fun I1 hq => ?_)
  subst hq
  refine j_gen (h.hap2 (by omega) (by simp (disch := omega) only [pk_un]; exact ht1)) (fun I1 h => ?_)
  refine j_retv dX4_activate_69 rfl ?_
  exact h

