/-! ===== what is made: the states, the desk ===== -/
theorem sFl.cg2 {kd kd1 : jx_K} {R R1 : jx_R} {a : Nat} (h : sFl kd R a) (ek : ∀ z, a ≤ z → z < a + 2 → kd1 z = kd z) (eR : ∀ z, a ≤ z → z < a + 2 → R1 z = R z) : sFl kd1 R1 a := by
  unfold sFl at *
  rw [ek a (by omega) (by omega), ek (a + 1) (by omega) (by omega), eR a (by omega) (by omega)]
  exact h
theorem sLg.cg2 {kd kd1 : jx_K} {R R1 : jx_R} {a : Nat} (h : sLg kd R a) (ek : ∀ z, a ≤ z → z < a + 4 → kd1 z = kd z) (eR : ∀ z, a ≤ z → z < a + 4 → R1 z = R z) : sLg kd1 R1 a := by
  unfold sLg at *
  rw [ek a (by omega) (by omega), ek (a + 1) (by omega) (by omega), ek (a + 2) (by omega) (by omega), ek (a + 3) (by omega) (by omega), eR a (by omega) (by omega)]
  exact h
theorem sPt.cg2 {kd kd1 : jx_K} {R R1 : jx_R} {a : Nat} (h : sPt kd R a) (ek : ∀ z, a ≤ z → z < a + 3 → kd1 z = kd z) (eR : ∀ z, a ≤ z → z < a + 3 → R1 z = R z) : sPt kd1 R1 a := by
  unfold sPt at *
  rw [ek a (by omega) (by omega), ek (a + 1) (by omega) (by omega), ek (a + 2) (by omega) (by omega), eR a (by omega) (by omega)]
  exact h
theorem sSc.cg2 {kd kd1 : jx_K} {R R1 : jx_R} {a : Nat} (h : sSc kd R a) (ek : ∀ z, a ≤ z → z < a + 5 → kd1 z = kd z) (eR : ∀ z, a ≤ z → z < a + 5 → R1 z = R z) : sSc kd1 R1 a := by
  unfold sSc at *
  rw [ek a (by omega) (by omega), ek (a + 1) (by omega) (by omega), ek (a + 2) (by omega) (by omega), ek (a + 3) (by omega) (by omega), ek (a + 4) (by omega) (by omega), eR a (by omega) (by omega)]
  exact h
theorem sSt.cg2 {kd kd1 : jx_K} {R R1 : jx_R} {a : Nat} (h : sSt kd R a) (ek : ∀ z, a ≤ z → z < a + 56 → kd1 z = kd z) (eR : ∀ z, a ≤ z → z < a + 56 → R1 z = R z) : sSt kd1 R1 a := by
  obtain ⟨K0, K1, R0, R1', R2, hF, hL, hP⟩ := h
  refine ⟨?_, ?_, ?_, ?_, ?_, hF.cg2 (fun z h1 h2 => ek z (by omega) (by omega)) (fun z h1 h2 => eR z (by omega) (by omega)), hL.cg2 (fun z h1 h2 => ek z (by omega) (by omega)) (fun z h1 h2 => eR z (by omega) (by omega)), fun i hi => ⟨?_, (hP i hi).2.cg2 (fun z h1 h2 => ek z (by omega) (by omega)) (fun z h1 h2 => eR z (by omega) (by omega))⟩⟩
  · rw [ek a (by omega) (by omega)]; exact K0
  · rw [ek (a + 1) (by omega) (by omega)]; exact K1
  · rw [eR a (by omega) (by omega)]; exact R0
  · rw [eR a (by omega) (by omega)]; exact R1'
  · rw [eR a (by omega) (by omega)]; exact R2
  · rw [eR (a + 1) (by omega) (by omega)]; exact (hP i hi).1
theorem sDk.cg2 {kd kd1 : jx_K} {R R1 : jx_R} {a : Nat} {P : Nat → Nat} (h : sDk kd R a P) (ek : ∀ z, a ≤ z → z < a + 344 → kd1 z = kd z) (eR : ∀ z, a ≤ z → z < a + 344 → R1 z = R z) : sDk kd1 R1 a P := by
  have hst := fun j => h.2.2.2.2.2.2.2.2.2.2.1 j
  obtain ⟨K0, K6, K7, R0, R1', R2, R4, R5, Rp, hsc, _, hP6, hinj⟩ := h
  refine ⟨?_, ?_, ?_, ?_, ?_, ?_, ?_, ?_, fun j hj => ?_, hsc.cg2 (fun z h1 h2 => ek z (by omega) (by omega)) (fun z h1 h2 => eR z (by omega) (by omega)), fun i hi => (hst i hi).cg2 (fun z h1 h2 => ek z (by unfold stA at *; omega) (by unfold stA at *; omega)) (fun z h1 h2 => eR z (by unfold stA at *; omega) (by unfold stA at *; omega)), hP6, hinj⟩
  · rw [ek a (by omega) (by omega)]; exact K0
  · rw [ek (a + 6) (by omega) (by omega)]; exact K6
  · rw [ek (a + 7) (by omega) (by omega)]; exact K7
  · rw [eR a (by omega) (by omega)]; exact R0
  · rw [eR a (by omega) (by omega)]; exact R1'
  · rw [eR a (by omega) (by omega)]; exact R2
  · rw [eR a (by omega) (by omega)]; exact R4
  · rw [eR a (by omega) (by omega)]; exact R5
  · rw [eR (a + 7) (by omega) (by omega)]; exact Rp j hj
def sJ (a i : Nat) (kd : jx_K) (R : jx_R) (I : jx_I) : Prop := kd a = (4, 0) ∧ kd (a + 1) = (9, 16) ∧ R a 0 = some (a + 1) ∧ R a 1 = some (a + 2) ∧ R a 2 = some (a + 4) ∧ sFl kd R (a + 2) ∧ sLg kd R (a + 4) ∧ (∀ j, j < i → R (a + 1) j = some (a + 8 + 3 * j) ∧ sPt kd R (a + 8 + 3 * j)) ∧ I a = (fun _ => 0) ∧ I (a + 2) = FL0 ∧ I (a + 4) = (fun _ => 0) ∧ I (a + 5) = (fun _ => 0) ∧ I (a + 6) = (fun _ => 0) ∧ I (a + 7) = (fun _ => 0)
theorem sJ.fin {a : Nat} {kd : jx_K} {R : jx_R} {I : jx_I} (h : sJ a 16 kd R I) : sSt kd R a ∧ aSt I a v00 0 0 := by
  obtain ⟨k0, k1, r0, r1, r2, hF, hL, hP, i0, i2, i4, i5, i6, i7⟩ := h
  refine ⟨⟨k0, k1, r0, r1, r2, hF, hL, fun i hi => hP i hi⟩, ?_, ?_, fun t h1 h2 _ => by omega, ⟨?_, fun j hj => ⟨?_, ?_, ?_⟩⟩, fun i hi => absurd hi (Nat.not_lt_zero _)⟩
  · rw [i0]; exact ⟨rfl, rfl, rfl, rfl, rfl, rfl⟩
  · rw [i2]; exact ⟨rfl, rfl, rfl, rfl, rfl⟩
  · rw [i4]; rfl
  · rw [show a + 4 + 1 = a + 5 from rfl, i5]; unfold v00; simp (disch := omega) only [pk_un]
  · rw [show a + 4 + 2 = a + 6 from rfl, i6]; unfold v00; simp (disch := omega) only [pk_un]
  · rw [show a + 4 + 3 = a + 7 from rfl, i7]; unfold v00; simp (disch := omega) only [pk_un]
theorem nFr.t {a b c : Nat} {kd kd1 kd2 : jx_K} {R R1 R2 : jx_R} {I I1 I2 : jx_I} (h1 : nFr a b kd kd1 R R1 I I1) (e : ∀ z, z < a ∨ c ≤ z → R2 z = R1 z ∧ I2 z = I1 z) (ek : ∀ z, z ≤ a ∨ c ≤ z → kd2 z = kd1 z) (hb : b ≤ c) : nFr a c kd kd2 R R2 I I2 :=
  ⟨fun z hz => ⟨(e z hz).1.trans (h1.1 z (by omega)).1, (e z hz).2.trans (h1.1 z (by omega)).2⟩, fun z hz => (ek z hz).trans (h1.2 z (by omega))⟩
set_option maxRecDepth 100000 in
set_option maxHeartbeats 4000000 in
theorem lp_X4_init {E : jx_E} {l : Launch} {kd0 : jx_K} {R0 : jx_R} {I0 : jx_I} {a : Nat} : ∀ (z i n : Nat) (kd : jx_K) (R : jx_R) (I : jx_I), i ≤ 16 → z + i = 17 → sJ a i kd R I → nFr a (a + 8 + 3 * i) kd0 kd R0 R I0 I → E.2.2.1 + n = a + 8 + 3 * i → jx_J E l cX4_init 2 none RX4 true { frames := 2, cells := 55, slots := 1104, locals := 32 * 2 } 55 1104 (jx_QN (fun kd' R' I' => nFr a (a + 56) kd0 kd' R0 R' I0 I' ∧ sSt kd' R' a ∧ aSt I' a v00 0 0)) (7 + 3 * i) (176 + 58 * i) n kd (R) I 37 [some (.ref a), some (.int (nI i))] [] := by
  intro z
  induction z with
  | zero => intro i n kd R I hi hz hJ hfr hn; omega
  | succ z ih =>
    intro i n kd R I hi hz hJ hfr hn
    obtain ⟨k0, k1, r0, r1, r2, hF, hL, hP, i0, i2, i4, i5, i6, i7⟩ := id hJ
    refine j_iload_n (pc' := 38) dX4_init_37 rfl rfl ?_
    refine j_bipush (pc' := 40) (v := nI 16) dX4_init_38 rfl rfl ?_
    first | refine j_icmp_geN' (tgt := 62) (pc' := 43) (by with_reducible rfl) (by with_reducible rfl) (by omega) (by omega) dX4_init_40 rfl (by decide) (fun c40 => ?_) (fun c40 => ?_) | refine j_icmp_ge (tgt := 62) (pc' := 43) dX4_init_40 rfl (by decide) (fun c40 => ?_) (fun c40 => ?_)
    ·
      have : i = 16 := by omega
      subst this
      refine j_retvG dX4_init_62 rfl ?_
      exact ⟨rfl, hfr, hJ.fin⟩
    ·
      refine j_aload_n (pc' := 44) dX4_init_43 rfl rfl ?_
      refine j_getR (pc' := 47) f_X4_11 (by first | assumption | (simp (disch := omega) only [va_up_self, va_up_ne]; first | done | rfl | assumption)) (by first | assumption | (simp (disch := omega) only [jx_upRS, jx_upRK, jx_upRA, va_up_ne, va_up_self]; first | done | rfl | assumption)) dX4_init_44 rfl ?_
      refine j_iload_n (pc' := 48) dX4_init_47 rfl rfl ?_
      refine j_newA (pc' := 51) (a := a + 8 + 3 * i) nw_X4_9 (by omega) (by show _ ≤ 55; omega) (by show _ ≤ 1104; omega) dX4_init_48 rfl ?_
      refine j_dup (pc' := 52) dX4_init_51 rfl rfl ?_
      refine j_callIN (pc' := 55) m_X4_31 (c_X2_init (a := a + 8 + 3 * i) (va_up_self _ _ _) (va_up_self _ _ _) (by omega)) rfl rfl ⟨Nat.le_of_ble_eq_true rfl, Nat.le_of_ble_eq_true rfl⟩ ⟨(by show _ ≤ 55; omega), (by show _ ≤ 1104; omega)⟩ (Nat.le_of_ble_eq_true rfl) dX4_init_52 rfl (fun v1 n1 kd1 R1 I1 hq hn1 => ?_)
      obtain ⟨rfl, f1, s1⟩ := hq
      have ek : ∀ z, z < a + 8 + 3 * i ∨ a + 8 + 3 * i + 3 ≤ z → kd1 z = kd z := fun z hz => (f1.2 z (by omega)).trans (va_up_ne _ _ (by omega))
      have eR : ∀ z, z < a + 8 + 3 * i ∨ a + 8 + 3 * i + 3 ≤ z → R1 z = R z := fun z hz => (f1.1 z (by omega)).1.trans (va_up_ne _ _ (by omega))
      have eI : ∀ z, z < a + 8 + 3 * i ∨ a + 8 + 3 * i + 3 ≤ z → I1 z = I z := fun z hz => (f1.1 z (by omega)).2.trans (va_up_ne _ _ (by omega))
      have kA : kd1 (a + 1) = (9, 16) := (ek _ (by omega)).trans k1
      have kP : kd1 (a + 8 + 3 * i) = (2, 0) := s1.1
      have eU : ∀ z, z ≠ a + 1 → jx_upR R1 (a + 1) i (some (a + 8 + 3 * i)) z = R1 z := fun z hz => by funext y; exact jx_upRA hz
      refine j_aastP (pc' := 56) (by first | assumption | (simp (disch := omega) only [va_up_self, va_up_ne]; first | done | rfl | assumption)) rfl (by omega) (by omega) (by first | assumption | (simp (disch := omega) only [va_up_self, va_up_ne]; first | done | rfl | assumption)) dX4_init_55 rfl ?_
      first | refine j_iincN (pc' := 59) (lv' := [_, _]) dX4_init_56 rfl rfl (by decide) rfl ?_ | refine j_iinc (pc' := 59) (lv' := [_, _]) dX4_init_56 rfl rfl rfl (by decide) rfl ?_
      refine j_goto (tgt := 37) dX4_init_59 (by decide) ?_
      have hJ2 : sJ a (i + 1) kd1 (jx_upR R1 (a + 1) i (some (a + 8 + 3 * i))) I1 := by
        have eU2 : ∀ z, z ≠ a + 1 → z < a + 8 + 3 * i → jx_upR R1 (a + 1) i (some (a + 8 + 3 * i)) z = R z := fun z h1 h2 => (eU z h1).trans (eR z (by omega))
        refine ⟨(ek _ (by omega)).trans k0, kA, ?_, ?_, ?_, hF.cg2 (fun z h1 h2 => ek z (by omega)) (fun z h1 h2 => eU2 z (by omega) (by omega)), hL.cg2 (fun z h1 h2 => ek z (by omega)) (fun z h1 h2 => eU2 z (by omega) (by omega)), fun j hj => ?_, ?_, ?_, ?_, ?_, ?_, ?_⟩
        · rw [eU2 _ (by omega) (by omega)]; exact r0
        · rw [eU2 _ (by omega) (by omega)]; exact r1
        · rw [eU2 _ (by omega) (by omega)]; exact r2
        · by_cases e : j = i
          · subst e
            exact ⟨jx_upRS, s1.cg2 (fun z h1 h2 => rfl) (fun z h1 h2 => eU z (by omega))⟩
          · refine ⟨?_, (hP j (by omega)).2.cg2 (fun z h1 h2 => ek z (by omega)) (fun z h1 h2 => eU2 z (by omega) (by omega))⟩
            rw [jx_upRK e, eR _ (by omega)]
            exact (hP j (by omega)).1
        · rw [eI _ (by omega)]; exact i0
        · rw [eI _ (by omega)]; exact i2
        · rw [eI _ (by omega)]; exact i4
        · rw [eI _ (by omega)]; exact i5
        · rw [eI _ (by omega)]; exact i6
        · rw [eI _ (by omega)]; exact i7
      have e2 := ih (i + 1) n1 kd1 (jx_upR R1 (a + 1) i (some (a + 8 + 3 * i))) I1 (by omega) (by omega) hJ2 (hfr.t (fun z hz => ⟨(eU z (by omega)).trans (eR z (by omega)), eI z (by omega)⟩) (fun z hz => ek z (by omega)) (by omega)) (by omega)
      rw [show 7 + 3 * (i + 1) = 7 + 3 * i + 1 + 2 from by omega, show 176 + 58 * (i + 1) = 176 + 58 * i + 11 + 47 from by omega] at e2
      exact e2
set_option maxRecDepth 100000 in
set_option maxHeartbeats 4000000 in
theorem c_X4_init {E : jx_E} {l : Launch} {n : Nat} {kd : jx_K} {R : jx_R} {I : jx_I} {a : Nat} (hk : kd a = (4, 0)) (hI : I a = fun _ => 0) (hn : E.2.2.1 + n = a + 1) : jx_Ct E l yX4_init cX4_init 2 none 2 55 1104 n kd R I [.ref a] (jx_QN (fun kd' R' I' => nFr a (a + 56) kd kd' R R' I I' ∧ sSt kd' R' a ∧ aSt I' a v00 0 0)) := by
  refine jx_CtN.ofJ RX4 [some (.ref a), none] (by decide) rfl rfl (Nat.le_of_ble_eq_true rfl) rfl ?_
  refine j_aload_n (pc' := 1) dX4_init_0 rfl rfl ?_
  refine j_objInit k_34 k_15 k_16 (Nat.le_of_ble_eq_true rfl) (Nat.le_of_ble_eq_true rfl) dX4_init_1 rfl ?_
  refine j_aload_n (pc' := 5) dX4_init_4 rfl rfl ?_
  refine j_bipush (pc' := 7) (v := nI 16) dX4_init_5 rfl rfl ?_
  refine j_anewPA (pc' := 10) (a := a + 1) (by omega) rfl (by decide) (Nat.le_of_ble_eq_true rfl) (Nat.le_of_ble_eq_true rfl) k_35 dX4_init_7 rfl ?_
  refine j_putRF (pc' := 13) f_X4_11 rfl (by intro C T N h; cases h; rfl) (by first | assumption | (simp (disch := omega) only [va_up_self, va_up_ne]; first | done | rfl | assumption)) rfl rfl dX4_init_10 rfl ?_
  refine j_aload_n (pc' := 14) dX4_init_13 rfl rfl ?_
  refine j_newA (pc' := 17) (a := a + 2) nw_X4_17 (by omega) (Nat.le_of_ble_eq_true rfl) (Nat.le_of_ble_eq_true rfl) dX4_init_14 rfl ?_
  refine j_dup (pc' := 18) dX4_init_17 rfl rfl ?_
  refine j_callIN (pc' := 21) m_X4_19 (c_X0_init (a := a + 2) (va_up_self _ _ _) (va_up_self _ _ _) (by omega)) rfl rfl ⟨Nat.le_of_ble_eq_true rfl, Nat.le_of_ble_eq_true rfl⟩ ⟨(Nat.le_of_ble_eq_true rfl), (Nat.le_of_ble_eq_true rfl)⟩ (Nat.le_of_ble_eq_true rfl) dX4_init_18 rfl (fun v1 n1 kd1 R1 I1 hq hn1 => ?_)
  obtain ⟨rfl, f1, s1, g1⟩ := hq
  have hk1 : kd1 a = (4, 0) := (f1.2 a (by omega)).trans (by simp (disch := omega) only [va_up_ne]; exact hk)
  refine j_putRF (pc' := 24) f_X4_20 rfl (by intro C T N h; cases h; rfl) (by first | assumption | (simp (disch := omega) only [va_up_self, va_up_ne]; first | done | rfl | assumption)) rfl rfl dX4_init_21 rfl ?_
  refine j_aload_n (pc' := 25) dX4_init_24 rfl rfl ?_
  refine j_newA (pc' := 28) (a := a + 4) nw_X4_24 (by omega) (Nat.le_of_ble_eq_true rfl) (Nat.le_of_ble_eq_true rfl) dX4_init_25 rfl ?_
  refine j_dup (pc' := 29) dX4_init_28 rfl rfl ?_
  refine j_callIN (pc' := 32) m_X4_26 (c_X1_init (a := a + 4) (va_up_self _ _ _) (va_up_self _ _ _) (by omega)) rfl rfl ⟨Nat.le_of_ble_eq_true rfl, Nat.le_of_ble_eq_true rfl⟩ ⟨(Nat.le_of_ble_eq_true rfl), (Nat.le_of_ble_eq_true rfl)⟩ (Nat.le_of_ble_eq_true rfl) dX4_init_29 rfl (fun v1 n2 kd2 R2 I2 hq2 hn2 => ?_)
  obtain ⟨rfl, f2, s2, g20, g21, g22, g23⟩ := hq2
  have hk2 : kd2 a = (4, 0) := (f2.2 a (by omega)).trans (by simp (disch := omega) only [va_up_ne]; exact hk1)
  refine j_putRF (pc' := 35) f_X4_27 rfl (by intro C T N h; cases h; rfl) (by first | assumption | (simp (disch := omega) only [va_up_self, va_up_ne]; first | done | rfl | assumption)) rfl rfl dX4_init_32 rfl ?_
  refine j_iconst (pc' := 36) (v := nI 0) dX4_init_35 rfl rfl ?_
  refine j_istore_n (pc' := 37) (lv' := [_, _]) dX4_init_36 rfl (by decide) rfl ?_
  have ek2 : ∀ z, z ≤ a + 3 ∨ a + 8 ≤ z → kd2 z = kd1 z := fun z hz => (f2.2 z (by omega)).trans (va_up_ne _ _ (by omega))
  have eR2 : ∀ z, z ≤ a + 3 ∨ a + 8 ≤ z → R2 z = jx_upR R1 a 1 (some (a + 2)) z := fun z hz => (f2.1 z (by omega)).1.trans (va_up_ne _ _ (by omega))
  have eI2 : ∀ z, z ≤ a + 3 ∨ a + 8 ≤ z → I2 z = I1 z := fun z hz => (f2.1 z (by omega)).2.trans (va_up_ne _ _ (by omega))
  have ek1 : ∀ z, z ≤ a + 1 ∨ a + 4 ≤ z → kd1 z = va_up kd (a + 1) (9, 16) z := fun z hz => (f1.2 z (by omega)).trans (va_up_ne _ _ (by omega))
  have eR1 : ∀ z, z ≤ a + 1 ∨ a + 4 ≤ z → R1 z = jx_upR (va_up R (a + 1) (fun _ => none)) a 0 (some (a + 1)) z := fun z hz => (f1.1 z (by omega)).1.trans (va_up_ne _ _ (by omega))
  have eI1 : ∀ z, z ≤ a + 1 ∨ a + 4 ≤ z → I1 z = va_up I (a + 1) (fun _ => 0) z := fun z hz => (f1.1 z (by omega)).2.trans (va_up_ne _ _ (by omega))
  have eX : ∀ z, z ≠ a → jx_upR R2 a 2 (some (a + 4)) z = R2 z := fun z hz => by funext y; exact jx_upRA hz
  have eY : ∀ z, z ≠ a → jx_upR R1 a 1 (some (a + 2)) z = R1 z := fun z hz => by funext y; exact jx_upRA hz
  have hJ : sJ a 0 kd2 (jx_upR R2 a 2 (some (a + 4))) I2 := by
    refine ⟨hk2, ?_, ?_, ?_, jx_upRS, ?_, s2.cg2 (fun _ _ _ => rfl) (fun z h1 h2 => eX z (by omega)), fun j hj => absurd hj (Nat.not_lt_zero _), ?_, ?_, g20, g21, g22, g23⟩
    · rw [ek2 _ (by omega), ek1 _ (by omega)]; exact va_up_self _ _ _
    · rw [jx_upRK (by omega), eR2 _ (by omega), jx_upRK (by omega), eR1 _ (by omega), jx_upRS]
    · rw [jx_upRK (by omega), eR2 _ (by omega), jx_upRS]
    · exact s1.cg2 (fun z h1 h2 => ek2 z (by omega)) (fun z h1 h2 => (eX z (by omega)).trans ((eR2 z (by omega)).trans (eY z (by omega))))
    · rw [eI2 _ (by omega), eI1 _ (by omega), va_up_ne _ _ (by omega)]; exact hI
    · rw [eI2 _ (by omega)]; exact g1
  refine lp_X4_init 17 0 n2 kd2 (jx_upR R2 a 2 (some (a + 4))) I2 (by omega) (by omega) hJ ⟨fun z hz => ⟨?_, ?_⟩, fun z hz => ?_⟩ (by omega)
  · rw [eX z (by omega), eR2 z (by omega), eY z (by omega), eR1 z (by omega)]
    funext y
    rw [jx_upRA (by omega), va_up_ne _ _ (by omega)]
  · rw [eI2 z (by omega), eI1 z (by omega), va_up_ne _ _ (by omega)]
  · rw [ek2 z (by omega), ek1 z (by omega), va_up_ne _ _ (by omega)]
