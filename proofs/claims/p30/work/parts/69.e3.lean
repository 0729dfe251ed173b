/-! ===== the desk is made ===== -/
def dJ (a i s : Nat) (kd : jx_K) (R : jx_R) (I : jx_I) : Prop := kd a = (5, 0) ∧ kd (a + 6) = (7, 16) ∧ kd (a + 7) = (10, 4) ∧ R a 0 = some (a + 1) ∧ R a 1 = some (a + 6) ∧ R a 2 = some (a + 7) ∧ sSc kd R (a + 1) ∧ (∀ j, j < i → R (a + 7) j = some (stA a j)) ∧ (∀ j, j < s → sSt kd R (stA a j) ∧ aSt I (stA a j) v00 0 0) ∧ I a = (fun _ => 0) ∧ I (a + 1) = (fun _ => 0) ∧ I (a + 2) = (fun _ => 0)
theorem sSc.a {kd : jx_K} {R : jx_R} {a : Nat} (h : sSt kd R a) : kd a = (4, 0) := h.1
/-- one more state: the old things stand -/
theorem dJ.st {a i s : Nat} {kd kd1 : jx_K} {R R1 : jx_R} {I I1 : jx_I} (h : dJ a i s kd R I) (ek : ∀ z, z < stA a s → kd1 z = kd z) (eR : ∀ z, z < stA a s → R1 z = R z) (eI : ∀ z, z < stA a s → I1 z = I z) (hn : sSt kd1 R1 (stA a s) ∧ aSt I1 (stA a s) v00 0 0) : dJ a i (s + 1) kd1 R1 I1 := by
  obtain ⟨k0, k6, k7, r0, r1, r2, hsc, hp, hst, i0, i1, i2⟩ := h
  have lo : a + 8 ≤ stA a s := by unfold stA; omega
  refine ⟨?_, ?_, ?_, ?_, ?_, ?_, hsc.cg2 (fun z h1 h2 => ek z (by omega)) (fun z h1 h2 => eR z (by omega)), fun j hj => ?_, fun j hj => ?_, ?_, ?_, ?_⟩
  · rw [ek _ (by omega)]; exact k0
  · rw [ek _ (by omega)]; exact k6
  · rw [ek _ (by omega)]; exact k7
  · rw [eR _ (by omega)]; exact r0
  · rw [eR _ (by omega)]; exact r1
  · rw [eR _ (by omega)]; exact r2
  · rw [eR _ (by omega)]; exact hp j hj
  · by_cases e : j = s
    · subst e; exact hn
    · obtain ⟨q1, q2⟩ := hst j (by omega)
      have hj2 : stA a j + 56 ≤ stA a s := by unfold stA; omega
      exact ⟨q1.cg2 (fun z h1 h2 => ek z (by omega)) (fun z h1 h2 => eR z (by omega)), q2.fr (by omega) (fun z h1 h2 => eI z (by omega))⟩
  · rw [eI _ (by omega)]; exact i0
  · rw [eI _ (by omega)]; exact i1
  · rw [eI _ (by omega)]; exact i2
/-- a reference of the desk or of its past turned: the states stand -/
theorem dJ.up {a i s b j : Nat} {x : Option Nat} {kd : jx_K} {R : jx_R} {I : jx_I} (h : dJ a i s kd R I) (hb : (b = a ∧ 3 ≤ j) ∨ (b = a + 7 ∧ i ≤ j)) : dJ a i s kd (jx_upR R b j x) I := by
  obtain ⟨k0, k6, k7, r0, r1, r2, hsc, hp, hst, i0, i1, i2⟩ := h
  have eU : ∀ z, z ≠ b → jx_upR R b j x z = R z := fun z hz => by funext y; exact jx_upRA hz
  refine ⟨k0, k6, k7, ?_, ?_, ?_, hsc.cg2 (fun _ _ _ => rfl) (fun z h1 h2 => eU z (by omega)), fun y hy => ?_, fun y hy => ⟨(hst y hy).1.cg2 (fun _ _ _ => rfl) (fun z h1 h2 => eU z (by unfold stA at *; omega)), (hst y hy).2⟩, i0, i1, i2⟩
  · rcases hb with ⟨rfl, _⟩ | ⟨rfl, h2⟩
    · rw [jx_upRK (by omega)]; exact r0
    · rw [jx_upRA (by omega)]; exact r0
  · rcases hb with ⟨rfl, _⟩ | ⟨rfl, h2⟩
    · rw [jx_upRK (by omega)]; exact r1
    · rw [jx_upRA (by omega)]; exact r1
  · rcases hb with ⟨rfl, _⟩ | ⟨rfl, h2⟩
    · rw [jx_upRK (by omega)]; exact r2
    · rw [jx_upRA (by omega)]; exact r2
  · rcases hb with ⟨rfl, _⟩ | ⟨rfl, h2⟩
    · rw [jx_upRA (by omega)]; exact hp y hy
    · rw [jx_upRK (by omega)]; exact hp y hy
theorem dJ.nx {a i s : Nat} {kd : jx_K} {R : jx_R} {I : jx_I} (h : dJ a i s kd R I) : dJ a (i + 1) s kd (jx_upR R (a + 7) i (some (stA a i))) I := by
  have h2 := h.up (b := a + 7) (j := i) (x := some (stA a i)) (Or.inr ⟨rfl, Nat.le_refl _⟩)
  obtain ⟨k0, k6, k7, r0, r1, r2, hsc, hp, hst, i0, i1, i2⟩ := h2
  refine ⟨k0, k6, k7, r0, r1, r2, hsc, fun j hj => ?_, hst, i0, i1, i2⟩
  by_cases e : j = i
  · subst e; exact jx_upRS
  · exact hp j (by omega)
set_option maxRecDepth 100000 in
set_option maxHeartbeats 4000000 in
theorem lp_X5_init {E : jx_E} {l : Launch} {kd0 : jx_K} {R0 : jx_R} {I0 : jx_I} {a : Nat} : ∀ (z i n : Nat) (kd : jx_K) (R : jx_R) (I : jx_I), i ≤ 4 → z + i = 5 → dJ a i i kd R I → nFr a (stA a i) kd0 kd R0 R I0 I → E.2.2.1 + n = stA a i → jx_J E l cX5_init 2 none RX5 true { frames := 3, cells := 343, slots := 6828, locals := 32 * 3 } 343 6828 (jx_QN (fun kd' R' I' => nFr a (a + 344) kd0 kd' R0 R' I0 I' ∧ dJ a 4 6 kd' R' I' ∧ R' a 4 = some (stA a 4) ∧ R' a 5 = some (stA a 5))) (7 + 56 * i) (150 + 1113 * i) n kd (R) I 33 [some (.ref a), some (.int (nI i))] [] := by
  intro z
  induction z with
  | zero => intro i n kd R I hi hz hJ hfr hn; omega
  | succ z ih =>
    intro i n kd R I hi hz hJ hfr hn
    obtain ⟨k0, k6, k7, r0, r1, r2, hsc, hp, hst, i0, i1, i2⟩ := id hJ
    have hsi1 : stA a (i + 1) = a + 8 + 56 * (i + 1) := rfl
    have s41 : stA a (4 + 1) = a + 288 := rfl
    have s4 : stA a 4 = a + 232 := rfl
    have s5 : stA a 5 = a + 288 := rfl
    have hst4 : stA a i = a + 8 + 56 * i := rfl
    refine j_iload_n (pc' := 34) dX5_init_33 rfl rfl ?_
    refine j_iconst (pc' := 35) (v := nI 4) dX5_init_34 rfl rfl ?_
    first | refine j_icmp_geN' (tgt := 57) (pc' := 38) (by with_reducible rfl) (by with_reducible rfl) (by omega) (by omega) dX5_init_35 rfl (by decide) (fun c35 => ?_) (fun c35 => ?_) | refine j_icmp_ge (tgt := 57) (pc' := 38) dX5_init_35 rfl (by decide) (fun c35 => ?_) (fun c35 => ?_)
    ·
      have : i = 4 := by omega
      subst this
      refine j_aload_n (pc' := 58) dX5_init_57 rfl rfl ?_
      refine j_newA (pc' := 61) (a := stA a 4) nw_X5_20 (by omega) (by show _ ≤ 343; omega) (by show _ ≤ 6828; omega) dX5_init_58 rfl ?_
      refine j_dup (pc' := 62) dX5_init_61 rfl rfl ?_
      refine j_callI (pc' := 65) m_X5_26 (c_X4_init (a := stA a 4) (va_up_self _ _ _) (va_up_self _ _ _) (by omega)) rfl rfl ⟨Nat.le_of_ble_eq_true rfl, Nat.le_of_ble_eq_true rfl⟩ ⟨(by show _ ≤ 343; omega), (by show _ ≤ 6828; omega)⟩ (Nat.le_of_ble_eq_true rfl) dX5_init_62 rfl (fun v1 n1 kd1 R1 I1 hq hn1 => ?_)
      obtain ⟨rfl, f1, s1⟩ := hq
      have ek1 : ∀ z, z < stA a 4 ∨ stA a 4 + 56 ≤ z → kd1 z = kd z := fun z hz => (f1.2 z (by omega)).trans (va_up_ne _ _ (by omega))
      have eR1 : ∀ z, z < stA a 4 ∨ stA a 4 + 56 ≤ z → R1 z = R z := fun z hz => (f1.1 z (by omega)).1.trans (va_up_ne _ _ (by omega))
      have eI1 : ∀ z, z < stA a 4 ∨ stA a 4 + 56 ≤ z → I1 z = I z := fun z hz => (f1.1 z (by omega)).2.trans (va_up_ne _ _ (by omega))
      have hJ1 := hJ.st (fun z h => ek1 z (by omega)) (fun z h => eR1 z (by omega)) (fun z h => eI1 z (by omega)) s1
      have kA : kd1 a = (5, 0) := hJ1.1
      refine j_putR (pc' := 68) f_X5_27 (by first | assumption | (simp (disch := omega) only [va_up_self, va_up_ne]; first | done | rfl | assumption)) rfl rfl dX5_init_65 rfl ?_
      refine j_aload_n (pc' := 69) dX5_init_68 rfl rfl ?_
      refine j_newA (pc' := 72) (a := stA a 5) nw_X5_20 (by omega) (by show _ ≤ 343; omega) (by show _ ≤ 6828; omega) dX5_init_69 rfl ?_
      refine j_dup (pc' := 73) dX5_init_72 rfl rfl ?_
      refine j_callI (pc' := 76) m_X5_26 (c_X4_init (a := stA a 5) (va_up_self _ _ _) (va_up_self _ _ _) (by omega)) rfl rfl ⟨Nat.le_of_ble_eq_true rfl, Nat.le_of_ble_eq_true rfl⟩ ⟨(by show _ ≤ 343; omega), (by show _ ≤ 6828; omega)⟩ (Nat.le_of_ble_eq_true rfl) dX5_init_73 rfl (fun v1 n2 kd2 R2 I2 hq2 hn2 => ?_)
      obtain ⟨rfl, f2, s2⟩ := hq2
      have ek2 : ∀ z, z < stA a 5 ∨ stA a 5 + 56 ≤ z → kd2 z = kd1 z := fun z hz => (f2.2 z (by omega)).trans (va_up_ne _ _ (by omega))
      have eR2 : ∀ z, z < stA a 5 ∨ stA a 5 + 56 ≤ z → R2 z = (jx_upR R1 a 4 (some (stA a 4))) z := fun z hz => (f2.1 z (by omega)).1.trans (va_up_ne _ _ (by omega))
      have eI2 : ∀ z, z < stA a 5 ∨ stA a 5 + 56 ≤ z → I2 z = I1 z := fun z hz => (f2.1 z (by omega)).2.trans (va_up_ne _ _ (by omega))
      have hJ2 := (hJ1.up (b := a) (j := 4) (x := some (stA a 4)) (Or.inl ⟨rfl, by omega⟩)).st (fun z h => ek2 z (by omega)) (fun z h => eR2 z (by omega)) (fun z h => eI2 z (by omega)) s2
      have kB : kd2 a = (5, 0) := hJ2.1
      refine j_putR (pc' := 79) f_X5_31 (by first | assumption | (simp (disch := omega) only [va_up_self, va_up_ne]; first | done | rfl | assumption)) rfl rfl dX5_init_76 rfl ?_
      refine j_retvG dX5_init_79 rfl ?_
      refine ⟨rfl, (hfr.t (c := a + 344) (fun z hz => ⟨?_, ?_⟩) (fun z hz => ?_) (by omega)), hJ2.up (Or.inl ⟨rfl, by omega⟩), ?_, jx_upRS⟩
      · have e1 : jx_upR R2 a 5 (some (stA a 5)) z = R2 z := by funext y; exact jx_upRA (by omega)
        have e2 : jx_upR R1 a 4 (some (stA a 4)) z = R1 z := by funext y; exact jx_upRA (by omega)
        rw [e1, eR2 z (by omega), e2, eR1 z (by omega)]
      · rw [eI2 z (by omega), eI1 z (by omega)]
      · rw [ek2 z (by omega), ek1 z (by omega)]
      · rw [jx_upRK (by omega), eR2 _ (by omega), jx_upRS]
    ·
      refine j_aload_n (pc' := 39) dX5_init_38 rfl rfl ?_
      refine j_getR (pc' := 42) f_X5_22 (by first | assumption | (simp (disch := omega) only [va_up_self, va_up_ne]; first | done | rfl | assumption)) (by first | assumption | (simp (disch := omega) only [jx_upRS, jx_upRK, jx_upRA, va_up_ne, va_up_self]; first | done | rfl | assumption)) dX5_init_39 rfl ?_
      refine j_iload_n (pc' := 43) dX5_init_42 rfl rfl ?_
      refine j_newA (pc' := 46) (a := stA a i) nw_X5_20 (by omega) (by show _ ≤ 343; omega) (by show _ ≤ 6828; omega) dX5_init_43 rfl ?_
      refine j_dup (pc' := 47) dX5_init_46 rfl rfl ?_
      refine j_callI (pc' := 50) m_X5_26 (c_X4_init (a := stA a i) (va_up_self _ _ _) (va_up_self _ _ _) (by omega)) rfl rfl ⟨Nat.le_of_ble_eq_true rfl, Nat.le_of_ble_eq_true rfl⟩ ⟨(by show _ ≤ 343; omega), (by show _ ≤ 6828; omega)⟩ (Nat.le_of_ble_eq_true rfl) dX5_init_47 rfl (fun v1 n1 kd1 R1 I1 hq hn1 => ?_)
      obtain ⟨rfl, f1, s1⟩ := hq
      have ek1 : ∀ z, z < stA a i ∨ stA a i + 56 ≤ z → kd1 z = kd z := fun z hz => (f1.2 z (by omega)).trans (va_up_ne _ _ (by omega))
      have eR1 : ∀ z, z < stA a i ∨ stA a i + 56 ≤ z → R1 z = R z := fun z hz => (f1.1 z (by omega)).1.trans (va_up_ne _ _ (by omega))
      have eI1 : ∀ z, z < stA a i ∨ stA a i + 56 ≤ z → I1 z = I z := fun z hz => (f1.1 z (by omega)).2.trans (va_up_ne _ _ (by omega))
      have hlo : a + 8 ≤ stA a i := by unfold stA; omega
      have hJ1 := hJ.st (fun z h => ek1 z (by omega)) (fun z h => eR1 z (by omega)) (fun z h => eI1 z (by omega)) s1
      have kA : kd1 (a + 7) = (10, 4) := hJ1.2.2.1
      have kP : kd1 (stA a i) = (4, 0) := s1.1.1
      refine j_aastS (pc' := 51) (by first | assumption | (simp (disch := omega) only [va_up_self, va_up_ne]; first | done | rfl | assumption)) rfl (by omega) (by omega) (by first | assumption | (simp (disch := omega) only [va_up_self, va_up_ne]; first | done | rfl | assumption)) dX5_init_50 rfl ?_
      first | refine j_iincN (pc' := 54) (lv' := [_, _]) dX5_init_51 rfl rfl (by decide) rfl ?_ | refine j_iinc (pc' := 54) (lv' := [_, _]) dX5_init_51 rfl rfl rfl (by decide) rfl ?_
      refine j_goto (tgt := 33) dX5_init_54 (by decide) ?_
      have eU : ∀ z, z ≠ a + 7 → jx_upR R1 (a + 7) i (some (stA a i)) z = R1 z := fun z hz => by funext y; exact jx_upRA hz
      have e2 := ih (i + 1) n1 kd1 (jx_upR R1 (a + 7) i (some (stA a i))) I1 (by omega) (by omega) hJ1.nx (hfr.t (fun z hz => ⟨(eU z (by omega)).trans (eR1 z (by omega)), eI1 z (by omega)⟩) (fun z hz => ek1 z (by omega)) (by omega)) (by unfold stA at *; omega)
      rw [show 7 + 56 * (i + 1) = 7 + 56 * i + 1 + 55 from by omega, show 150 + 1113 * (i + 1) = 150 + 1113 * i + 9 + 1104 from by omega] at e2
      exact e2
set_option maxRecDepth 100000 in
set_option maxHeartbeats 4000000 in
theorem c_X5_init {E : jx_E} {l : Launch} {n : Nat} {kd : jx_K} {R : jx_R} {I : jx_I} {a : Nat} (hk : kd a = (5, 0)) (hI : I a = fun _ => 0) (hn : E.2.2.1 + n = a + 1) : jx_Ct E l yX5_init cX5_init 2 none 3 343 6828 n kd R I [.ref a] (jx_QN (fun kd' R' I' => nFr a (a + 344) kd kd' R R' I I' ∧ dJ a 4 6 kd' R' I' ∧ R' a 4 = some (stA a 4) ∧ R' a 5 = some (stA a 5))) := by
  refine jx_CtN.ofJ RX5 [some (.ref a), none] (by decide) rfl rfl (Nat.le_of_ble_eq_true rfl) rfl ?_
  refine j_aload_n (pc' := 1) dX5_init_0 rfl rfl ?_
  refine j_objInit k_14 k_15 k_16 (Nat.le_of_ble_eq_true rfl) (Nat.le_of_ble_eq_true rfl) dX5_init_1 rfl ?_
  refine j_aload_n (pc' := 5) dX5_init_4 rfl rfl ?_
  refine j_newA (pc' := 8) (a := a + 1) nw_X5_7 (by omega) (Nat.le_of_ble_eq_true rfl) (Nat.le_of_ble_eq_true rfl) dX5_init_5 rfl ?_
  refine j_dup (pc' := 9) dX5_init_8 rfl rfl ?_
  refine j_callIN (pc' := 12) m_X5_9 (c_X3_init (a := a + 1) (va_up_self _ _ _) (va_up_self _ _ _) (by omega)) rfl rfl ⟨Nat.le_of_ble_eq_true rfl, Nat.le_of_ble_eq_true rfl⟩ ⟨(Nat.le_of_ble_eq_true rfl), (Nat.le_of_ble_eq_true rfl)⟩ (Nat.le_of_ble_eq_true rfl) dX5_init_9 rfl (fun v1 n1 kd1 R1 I1 hq hn1 => ?_)
  obtain ⟨rfl, f1, s1, g10, g11⟩ := hq
  have hk1 : kd1 a = (5, 0) := (f1.2 a (by omega)).trans (by simp (disch := omega) only [va_up_ne]; exact hk)
  have ek1 : ∀ z, z ≤ a ∨ a + 6 ≤ z → kd1 z = kd z := fun z hz => (f1.2 z (by omega)).trans (va_up_ne _ _ (by omega))
  have eR1 : ∀ z, z ≤ a ∨ a + 6 ≤ z → R1 z = R z := fun z hz => (f1.1 z (by omega)).1.trans (va_up_ne _ _ (by omega))
  have eI1 : ∀ z, z ≤ a ∨ a + 6 ≤ z → I1 z = I z := fun z hz => (f1.1 z (by omega)).2.trans (va_up_ne _ _ (by omega))
  refine j_putRF (pc' := 15) f_X5_10 rfl (by intro C T N h; cases h; rfl) (by first | assumption | (simp (disch := omega) only [va_up_self, va_up_ne]; first | done | rfl | assumption)) rfl rfl dX5_init_12 rfl ?_
  refine j_aload_n (pc' := 16) dX5_init_15 rfl rfl ?_
  refine j_bipush (pc' := 18) (v := nI 16) dX5_init_16 rfl rfl ?_
  refine j_newaIA (pc' := 20) (a := a + 6) (by omega) rfl (by decide) (Nat.le_of_ble_eq_true rfl) (Nat.le_of_ble_eq_true rfl) k_28 dX5_init_18 rfl ?_
  refine j_putRF (pc' := 23) f_X5_16 rfl (by intro C T N h; cases h; rfl) (by first | assumption | (simp (disch := omega) only [va_up_self, va_up_ne]; first | done | rfl | assumption)) rfl rfl dX5_init_20 rfl ?_
  refine j_aload_n (pc' := 24) dX5_init_23 rfl rfl ?_
  refine j_iconst (pc' := 25) (v := nI 4) dX5_init_24 rfl rfl ?_
  refine j_anewSA (pc' := 28) (a := a + 7) (by omega) rfl (by decide) (Nat.le_of_ble_eq_true rfl) (Nat.le_of_ble_eq_true rfl) k_29 dX5_init_25 rfl ?_
  refine j_putRF (pc' := 31) f_X5_22 rfl (by intro C T N h; cases h; rfl) (by first | assumption | (simp (disch := omega) only [va_up_self, va_up_ne]; first | done | rfl | assumption)) rfl rfl dX5_init_28 rfl ?_
  refine j_iconst (pc' := 32) (v := nI 0) dX5_init_31 rfl rfl ?_
  refine j_istore_n (pc' := 33) (lv' := [_, _]) dX5_init_32 rfl (by decide) rfl ?_
  have hJ : dJ a 0 0 (va_up (va_up kd1 (a + 6) (7, 16)) (a + 7) (10, 4)) (jx_upR (va_up (jx_upR (va_up (jx_upR R1 a 0 (some (a + 1))) (a + 6) (fun _ => none)) a 1 (some (a + 6))) (a + 7) (fun _ => none)) a 2 (some (a + 7))) (va_up (va_up I1 (a + 6) (fun _ => 0)) (a + 7) (fun _ => 0)) := by
    refine ⟨?_, ?_, ?_, ?_, ?_, ?_, s1.cg2 (fun z h1 h2 => ?_) (fun z h1 h2 => ?_), fun j hj => absurd hj (Nat.not_lt_zero _), fun j hj => absurd hj (Nat.not_lt_zero _), ?_, ?_, ?_⟩
    · simp (disch := omega) only [va_up_self, va_up_ne, jx_upRS, jx_upRK, jx_upRA]; exact hk1
    · simp (disch := omega) only [va_up_self, va_up_ne, jx_upRS, jx_upRK, jx_upRA]
    · simp (disch := omega) only [va_up_self, va_up_ne, jx_upRS, jx_upRK, jx_upRA]
    · simp (disch := omega) only [va_up_self, va_up_ne, jx_upRS, jx_upRK, jx_upRA]
    · simp (disch := omega) only [va_up_self, va_up_ne, jx_upRS, jx_upRK, jx_upRA]
    · simp (disch := omega) only [va_up_self, va_up_ne, jx_upRS, jx_upRK, jx_upRA]
    · simp (disch := omega) only [va_up_self, va_up_ne, jx_upRS, jx_upRK, jx_upRA]
    · funext y; simp (disch := omega) only [va_up_self, va_up_ne, jx_upRS, jx_upRK, jx_upRA]
    · simp (disch := omega) only [va_up_self, va_up_ne, jx_upRS, jx_upRK, jx_upRA]; rw [eI1 _ (by omega)]; exact hI
    · simp (disch := omega) only [va_up_self, va_up_ne, jx_upRS, jx_upRK, jx_upRA]; exact g10
    · simp (disch := omega) only [va_up_self, va_up_ne, jx_upRS, jx_upRK, jx_upRA]; exact g11
  refine lp_X5_init 5 0 _ (va_up (va_up kd1 (a + 6) (7, 16)) (a + 7) (10, 4)) (jx_upR (va_up (jx_upR (va_up (jx_upR R1 a 0 (some (a + 1))) (a + 6) (fun _ => none)) a 1 (some (a + 6))) (a + 7) (fun _ => none)) a 2 (some (a + 7))) (va_up (va_up I1 (a + 6) (fun _ => 0)) (a + 7) (fun _ => 0)) (by omega) (by omega) hJ ⟨fun z hz => ⟨?_, ?_⟩, fun z hz => ?_⟩ (by unfold stA; omega)
  · unfold stA at hz; funext y; simp (disch := omega) only [va_up_self, va_up_ne, jx_upRS, jx_upRK, jx_upRA]; rw [eR1 z (by omega)]
  · unfold stA at hz; simp (disch := omega) only [va_up_self, va_up_ne, jx_upRS, jx_upRK, jx_upRA]; rw [eI1 z (by omega)]
  · unfold stA at hz; simp (disch := omega) only [va_up_self, va_up_ne, jx_upRS, jx_upRK, jx_upRA]; rw [ek1 z (by omega)]
theorem VI00 : VI v00 0 0 10 0 := by
  refine ⟨by decide, by omega, by decide, by omega, ⟨0, by omega, by decide⟩, ⟨false, by decide⟩, by decide, by omega, by decide, fun i hi => absurd hi (Nat.not_lt_zero _), fun _ => 0, fun i hi => absurd hi (Nat.not_lt_zero _)⟩
theorem VX00 : VX v00 0 := ⟨fun i hi => absurd hi (Nat.not_lt_zero _), ⟨5, by omega, by decide⟩, 2, by omega, by decide⟩
theorem dJ.fin {a : Nat} {kd : jx_K} {R : jx_R} {I : jx_I} (h : dJ a 4 6 kd R I) (r4 : R a 4 = some (stA a 4)) (r5 : R a 5 = some (stA a 5)) (p : Nat → Int32) (B : Nat) : sDk kd R a (fun j => j) ∧ dM I a (fun j => j) v00 p 0 B ∧ scI a I (fun _ => 0) 0 := by
  obtain ⟨k0, k6, k7, r0, r1, r2, hsc, hp, hst, i0, i1, i2⟩ := h
  refine ⟨⟨k0, k6, k7, r0, r1, r2, r4, r5, hp, hsc, fun i hi => (hst i hi).1, fun j hj => hj, fun i j _ _ h => h⟩, ⟨?_, by omega, ⟨0, 0, 10, 0, (hst 4 (by omega)).2, VI00, Nat.zero_le _, VX00⟩, fun j hj => absurd hj (Nat.not_lt_zero _)⟩, ⟨?_, i2, by omega⟩⟩
  · rw [i0]; rfl
  · rw [i1]; rfl
