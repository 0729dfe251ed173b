def bgZ (I : jx_I) (p j : Nat) : jx_I := va_up I (p + 1) (fun k => if k < j then 0 else I (p + 1) k)
theorem bgZ_s {I : jx_I} {p j : Nat} : jx_up (bgZ I p j) (p + 1) j 0 = bgZ I p (j + 1) := by
  funext b
  by_cases hb : b = p + 1
  · subst hb
    funext k
    simp only [jx_up, bgZ, va_up, upd, if_pos]
    by_cases hk : k = j
    · subst hk; simp
    · rw [if_neg hk]
      by_cases h2 : k < j
      · rw [if_pos h2, if_pos (by omega)]
      · rw [if_neg h2, if_neg (by omega)]
  · simp [jx_up, bgZ, va_up, hb]
theorem bgZ_0 {I : jx_I} {p : Nat} : bgZ I p 0 = I := by
  funext b
  by_cases hb : b = p + 1
  · subst hb; funext k; simp [bgZ, va_up]
  · simp [bgZ, va_up, hb]

set_option maxRecDepth 100000 in
set_option maxHeartbeats 4000000 in
theorem lp_X2_begin {E : jx_E} {l : Launch} {n : Nat} {kd : jx_K} {R : jx_R} {I : jx_I} {p : Nat} {x y : Int32} (hp : sPt kd R p) : ∀ (z j : Nat), j ≤ 7 → z + j = 8 → jx_J E l cX2_begin 4 none RX2 false (jx_rm 0) 0 0 (jx_Q0 n kd R (jx_Pv (fun I' => (∀ b, b ≠ p → b ≠ p + 1 → I' b = I b) ∧ (∀ j, j < 7 → I' (p + 1) j = if j = 1 then x else if j = 5 then y else 0) ∧ I' p 2 = 0 ∧ I' p 3 = 0 ∧ I' p 4 = -1 ∧ I' p 5 = 0 ∧ I' p 6 = 1 ∧ I' p 7 = 0 ∧ I' p 8 = 0 ∧ I' p 9 = 0 ∧ I' p 10 = 0))) 0 0 n kd R (bgZ I p j) 2 [some (.ref p), some (.int x), some (.int y), some (.int (nI j))] [] := by
  obtain ⟨K0, K1, K2, R0, R1⟩ := id hp
  intro z
  induction z with
  | zero => intro j hj hz; omega
  | succ z ih =>
    intro j hj hz
    refine j_iload_n (pc' := 3) dX2_begin_2 rfl rfl ?_
    refine j_bipush (pc' := 5) (v := nI 7) dX2_begin_3 rfl rfl ?_
    first | refine j_icmp_geN' (tgt := 21) (pc' := 8) (by with_reducible rfl) (by with_reducible rfl) (by omega) (by omega) dX2_begin_5 rfl (by decide) (fun c5 => ?_) (fun c5 => ?_) | refine j_icmp_ge (tgt := 21) (pc' := 8) dX2_begin_5 rfl (by decide) (fun c5 => ?_) (fun c5 => ?_)
    ·
      have e7 : j = 7 := by omega
      subst e7
      refine j_aload_n (pc' := 22) dX2_begin_21 rfl rfl ?_
      refine j_getR (pc' := 25) f_X2_9 (by assumption) (by assumption) dX2_begin_22 rfl ?_
      refine j_iconst (pc' := 26) (v := nI 1) dX2_begin_25 rfl rfl ?_
      refine j_iload_n (pc' := 27) dX2_begin_26 rfl rfl ?_
      refine j_iast (pc' := 28) (by assumption) rfl (by omega) (by omega) dX2_begin_27 rfl ?_
      refine j_aload_n (pc' := 29) dX2_begin_28 rfl rfl ?_
      refine j_getR (pc' := 32) f_X2_9 (by assumption) (by assumption) dX2_begin_29 rfl ?_
      refine j_iconst (pc' := 33) (v := nI 5) dX2_begin_32 rfl rfl ?_
      refine j_iload_n (pc' := 34) dX2_begin_33 rfl rfl ?_
      refine j_iast (pc' := 35) (by assumption) rfl (by omega) (by omega) dX2_begin_34 rfl ?_
      refine j_aload_n (pc' := 36) dX2_begin_35 rfl rfl ?_
      refine j_iconst (pc' := 37) (v := nI 0) dX2_begin_36 rfl rfl ?_
      refine j_putI (pc' := 40) f_X2_18 (by assumption) rfl rfl dX2_begin_37 rfl ?_
      refine j_aload_n (pc' := 41) dX2_begin_40 rfl rfl ?_
      refine j_iconst (pc' := 42) (v := nI 0) dX2_begin_41 rfl rfl ?_
      refine j_putI (pc' := 45) f_X2_22 (by assumption) rfl rfl dX2_begin_42 rfl ?_
      refine j_aload_n (pc' := 46) dX2_begin_45 rfl rfl ?_
      refine j_iconst (pc' := 47) (v := -1) dX2_begin_46 rfl rfl ?_
      refine j_putI (pc' := 50) f_X2_25 (by assumption) rfl rfl dX2_begin_47 rfl ?_
      refine j_aload_n (pc' := 51) dX2_begin_50 rfl rfl ?_
      refine j_iconst (pc' := 52) (v := nI 0) dX2_begin_51 rfl rfl ?_
      refine j_putI (pc' := 55) f_X2_28 (by assumption) (by first | rfl | exact bi_n _) (by first | rfl | exact bi_fit _) dX2_begin_52 rfl ?_
      refine j_aload_n (pc' := 56) dX2_begin_55 rfl rfl ?_
      refine j_iconst (pc' := 57) (v := nI 1) dX2_begin_56 rfl rfl ?_
      refine j_putI (pc' := 60) f_X2_32 (by assumption) (by first | rfl | exact bi_n _) (by first | rfl | exact bi_fit _) dX2_begin_57 rfl ?_
      refine j_aload_n (pc' := 61) dX2_begin_60 rfl rfl ?_
      refine j_iconst (pc' := 62) (v := nI 0) dX2_begin_61 rfl rfl ?_
      refine j_putI (pc' := 65) f_X2_35 (by assumption) rfl rfl dX2_begin_62 rfl ?_
      refine j_aload_n (pc' := 66) dX2_begin_65 rfl rfl ?_
      refine j_iconst (pc' := 67) (v := nI 0) dX2_begin_66 rfl rfl ?_
      refine j_putI (pc' := 70) f_X2_38 (by assumption) rfl rfl dX2_begin_67 rfl ?_
      refine j_aload_n (pc' := 71) dX2_begin_70 rfl rfl ?_
      refine j_iconst (pc' := 72) (v := nI 0) dX2_begin_71 rfl rfl ?_
      refine j_putI (pc' := 75) f_X2_41 (by assumption) rfl rfl dX2_begin_72 rfl ?_
      refine j_aload_n (pc' := 76) dX2_begin_75 rfl rfl ?_
      refine j_iconst (pc' := 77) (v := nI 0) dX2_begin_76 rfl rfl ?_
      refine j_putI (pc' := 80) f_X2_44 (by assumption) rfl rfl dX2_begin_77 rfl ?_
      refine j_retv dX2_begin_80 rfl ?_
      refine ⟨fun b h1 h2 => ?_, fun j hj => ?_, ?_, ?_, ?_, ?_, ?_, ?_, ?_, ?_, ?_⟩
      · funext k
        simp [jx_up, upd, bgZ, va_up, h1, h2]
      · have q0 : p + 1 ≠ p := by omega
        simp only [jx_up, upd, bgZ, va_up, if_neg q0, if_pos]
        by_cases h5 : j = 5
        · subst h5; simp
        · by_cases h1 : j = 1
          · subst h1; simp
          · simp [h5, h1, hj]
      · simp [jx_up, upd, nI_0, nI1]
      · simp [jx_up, upd, nI_0, nI1]
      · simp [jx_up, upd, nI_0, nI1]
      · simp [jx_up, upd, nI_0, nI1]
      · simp [jx_up, upd, nI_0, nI1]
      · simp [jx_up, upd, nI_0, nI1]
      · simp [jx_up, upd, nI_0, nI1]
      · simp [jx_up, upd, nI_0, nI1]
      · simp [jx_up, upd, nI_0, nI1]
    ·
      have hj7 : j < 7 := by omega
      refine j_aload_n (pc' := 9) dX2_begin_8 rfl rfl ?_
      refine j_getR (pc' := 12) f_X2_9 (by assumption) (by assumption) dX2_begin_9 rfl ?_
      refine j_iload_n (pc' := 13) dX2_begin_12 rfl rfl ?_
      refine j_iconst (pc' := 14) (v := nI 0) dX2_begin_13 rfl rfl ?_
      refine j_iast (pc' := 15) (by assumption) rfl (by omega) (by omega) dX2_begin_14 rfl ?_
      first | refine j_iincN (pc' := 18) (lv' := [_, _, _, _]) dX2_begin_15 rfl rfl (by decide) rfl ?_ | refine j_iinc (pc' := 18) (lv' := [_, _, _, _]) dX2_begin_15 rfl rfl rfl (by decide) rfl ?_
      refine j_goto (tgt := 2) dX2_begin_18 (by decide) ?_
      have hh := ih (j + 1) (by omega) (by omega)
      rw [← bgZ_s] at hh
      exact hh
set_option maxRecDepth 100000 in
set_option maxHeartbeats 4000000 in
theorem c_X2_begin {E : jx_E} {l : Launch} {n : Nat} {kd : jx_K} {R : jx_R} {I : jx_I} {p : Nat} {x y : Int32} (hp : sPt kd R p) : jx_Cv E l yX2_begin cX2_begin 4 none 0 n kd R (I) [.ref p, .int x, .int y] ((fun I' => (∀ b, b ≠ p → b ≠ p + 1 → I' b = I b) ∧ (∀ j, j < 7 → I' (p + 1) j = if j = 1 then x else if j = 5 then y else 0) ∧ I' p 2 = 0 ∧ I' p 3 = 0 ∧ I' p 4 = -1 ∧ I' p 5 = 0 ∧ I' p 6 = 1 ∧ I' p 7 = 0 ∧ I' p 8 = 0 ∧ I' p 9 = 0 ∧ I' p 10 = 0)) := by
  obtain ⟨K0, K1, K2, R0, R1⟩ := id hp
  refine jx_C0.ofJ RX2 [some (.ref p), some (.int x), some (.int y), none] (by decide) rfl rfl (Nat.le_of_ble_eq_true rfl) rfl ?_
  refine j_iconst (pc' := 1) (v := nI 0) dX2_begin_0 rfl rfl ?_
  refine j_istore_n (pc' := 2) (lv' := [_, _, _, _]) dX2_begin_1 rfl (by decide) rfl ?_
  have h := lp_X2_begin (E := E) (l := l) (n := n) (I := I) (x := x) (y := y) hp 8 0 (by omega) (by omega)
  rw [bgZ_0] at h
  exact h

set_option maxRecDepth 100000 in
set_option maxHeartbeats 4000000 in
theorem c_X2_copyFrom {E : jx_E} {l : Launch} {n : Nat} {kd : jx_K} {R : jx_R} {I : jx_I} {p : Nat} {g : Nat} {z5 z6 : Bool} (hp : sPt kd R p) (hg : sPt kd R g) (hpg : p + 2 < g ∨ g + 2 < p) (hz5 : I g 5 = bi z5) (hz6 : I g 6 = bi z6) : jx_Cv E l yX2_copyFrom cX2_copyFrom 2 none 1 n kd R (I) [.ref p, .ref g] (fun I' => (∀ b, b ≠ p → b ≠ p + 1 → b ≠ p + 2 → I' b = I b) ∧ (∀ j, j < 7 → I' (p + 1) j = I (g + 1) j) ∧ (∀ j, j < 40 → I' (p + 2) j = I (g + 2) j) ∧ (∀ k, 2 ≤ k → k ≤ 10 → I' p k = I g k)) := by
  obtain ⟨K0, K1, K2, R0, R1⟩ := id hp
  obtain ⟨L0, L1, L2, P0, P1⟩ := id hg
  have n0 : g ≠ p ∧ g ≠ p + 1 ∧ g ≠ p + 2 := by omega
  have n1 : g + 1 ≠ p ∧ g + 1 ≠ p + 1 ∧ g + 1 ≠ p + 2 := by omega
  have n2 : g + 2 ≠ p ∧ g + 2 ≠ p + 1 ∧ g + 2 ≠ p + 2 := by omega
  have u1 : ∀ (f1 : Nat → Int32) (J : jx_I) (k : Nat), va_up J (p + 1) f1 g k = J g k := fun f1 J k => by simp [va_up, n0]
  have u2 : ∀ (f1 : Nat → Int32) (J : jx_I) (k : Nat), va_up J (p + 2) f1 g k = J g k := fun f1 J k => by simp [va_up, n0]
  refine jx_C0.ofJ RX2 [some (.ref p), some (.ref g)] (by decide) rfl rfl (Nat.le_of_ble_eq_true rfl) rfl ?_
  refine j_aload_n (pc' := 1) dX2_copyFrom_0 rfl rfl ?_
  refine j_getR (pc' := 4) f_X2_9 (by assumption) (by assumption) dX2_copyFrom_1 rfl ?_
  refine j_iconst (pc' := 5) (v := nI 0) dX2_copyFrom_4 rfl rfl ?_
  refine j_aload_n (pc' := 6) dX2_copyFrom_5 rfl rfl ?_
  refine j_getR (pc' := 9) f_X2_9 (by assumption) (by assumption) dX2_copyFrom_6 rfl ?_
  refine j_iconst (pc' := 10) (v := nI 0) dX2_copyFrom_9 rfl rfl ?_
  refine j_bipush (pc' := 12) (v := nI 7) dX2_copyFrom_10 rfl rfl ?_
  refine j_copyI (pc' := 15) k_126 k_128 k_127 k_8 (by assumption) (by assumption) (by decide) (by decide) (by decide) (by decide) (Nat.le_of_ble_eq_true rfl) (by decide) dX2_copyFrom_12 rfl ?_
  refine j_aload_n (pc' := 16) dX2_copyFrom_15 rfl rfl ?_
  refine j_getR (pc' := 19) f_X2_15 (by assumption) (by assumption) dX2_copyFrom_16 rfl ?_
  refine j_iconst (pc' := 20) (v := nI 0) dX2_copyFrom_19 rfl rfl ?_
  refine j_aload_n (pc' := 21) dX2_copyFrom_20 rfl rfl ?_
  refine j_getR (pc' := 24) f_X2_15 (by assumption) (by assumption) dX2_copyFrom_21 rfl ?_
  refine j_iconst (pc' := 25) (v := nI 0) dX2_copyFrom_24 rfl rfl ?_
  refine j_bipush (pc' := 27) (v := nI 40) dX2_copyFrom_25 rfl rfl ?_
  refine j_copyI (pc' := 30) k_126 k_128 k_127 k_8 (by assumption) (by assumption) (by decide) (by decide) (by decide) (by decide) (Nat.le_of_ble_eq_true rfl) (by decide) dX2_copyFrom_27 rfl ?_
  refine j_aload_n (pc' := 31) dX2_copyFrom_30 rfl rfl ?_
  refine j_aload_n (pc' := 32) dX2_copyFrom_31 rfl rfl ?_
  refine j_getIv (pc' := 35) f_X2_18 (by assumption) (by first | (simp (disch := omega) only [jx_upS, jx_upK, jx_upA, u1, u2, hz5, hz6]; rfl) | rfl) dX2_copyFrom_32 rfl ?_
  refine j_putI (pc' := 38) f_X2_18 (by assumption) rfl rfl dX2_copyFrom_35 rfl ?_
  refine j_aload_n (pc' := 39) dX2_copyFrom_38 rfl rfl ?_
  refine j_aload_n (pc' := 40) dX2_copyFrom_39 rfl rfl ?_
  refine j_getIv (pc' := 43) f_X2_22 (by assumption) (by first | (simp (disch := omega) only [jx_upS, jx_upK, jx_upA, u1, u2, hz5, hz6]; rfl) | rfl) dX2_copyFrom_40 rfl ?_
  refine j_putI (pc' := 46) f_X2_22 (by assumption) rfl rfl dX2_copyFrom_43 rfl ?_
  refine j_aload_n (pc' := 47) dX2_copyFrom_46 rfl rfl ?_
  refine j_aload_n (pc' := 48) dX2_copyFrom_47 rfl rfl ?_
  refine j_getIv (pc' := 51) f_X2_25 (by assumption) (by first | (simp (disch := omega) only [jx_upS, jx_upK, jx_upA, u1, u2, hz5, hz6]; rfl) | rfl) dX2_copyFrom_48 rfl ?_
  refine j_putI (pc' := 54) f_X2_25 (by assumption) rfl rfl dX2_copyFrom_51 rfl ?_
  refine j_aload_n (pc' := 55) dX2_copyFrom_54 rfl rfl ?_
  refine j_aload_n (pc' := 56) dX2_copyFrom_55 rfl rfl ?_
  refine j_getIv (pc' := 59) f_X2_28 (by assumption) (by first | (simp (disch := omega) only [jx_upS, jx_upK, jx_upA, u1, u2, hz5, hz6]; rfl) | rfl) dX2_copyFrom_56 rfl ?_
  refine j_putI (pc' := 62) f_X2_28 (by assumption) (by first | rfl | exact bi_n _) (by first | rfl | exact bi_fit _) dX2_copyFrom_59 rfl ?_
  refine j_aload_n (pc' := 63) dX2_copyFrom_62 rfl rfl ?_
  refine j_aload_n (pc' := 64) dX2_copyFrom_63 rfl rfl ?_
  refine j_getIv (pc' := 67) f_X2_32 (by assumption) (by first | (simp (disch := omega) only [jx_upS, jx_upK, jx_upA, u1, u2, hz5, hz6]; rfl) | rfl) dX2_copyFrom_64 rfl ?_
  refine j_putI (pc' := 70) f_X2_32 (by assumption) (by first | rfl | exact bi_n _) (by first | rfl | exact bi_fit _) dX2_copyFrom_67 rfl ?_
  refine j_aload_n (pc' := 71) dX2_copyFrom_70 rfl rfl ?_
  refine j_aload_n (pc' := 72) dX2_copyFrom_71 rfl rfl ?_
  refine j_getIv (pc' := 75) f_X2_35 (by assumption) (by first | (simp (disch := omega) only [jx_upS, jx_upK, jx_upA, u1, u2, hz5, hz6]; rfl) | rfl) dX2_copyFrom_72 rfl ?_
  refine j_putI (pc' := 78) f_X2_35 (by assumption) rfl rfl dX2_copyFrom_75 rfl ?_
  refine j_aload_n (pc' := 79) dX2_copyFrom_78 rfl rfl ?_
  refine j_aload_n (pc' := 80) dX2_copyFrom_79 rfl rfl ?_
  refine j_getIv (pc' := 83) f_X2_38 (by assumption) (by first | (simp (disch := omega) only [jx_upS, jx_upK, jx_upA, u1, u2, hz5, hz6]; rfl) | rfl) dX2_copyFrom_80 rfl ?_
  refine j_putI (pc' := 86) f_X2_38 (by assumption) rfl rfl dX2_copyFrom_83 rfl ?_
  refine j_aload_n (pc' := 87) dX2_copyFrom_86 rfl rfl ?_
  refine j_aload_n (pc' := 88) dX2_copyFrom_87 rfl rfl ?_
  refine j_getIv (pc' := 91) f_X2_41 (by assumption) (by first | (simp (disch := omega) only [jx_upS, jx_upK, jx_upA, u1, u2, hz5, hz6]; rfl) | rfl) dX2_copyFrom_88 rfl ?_
  refine j_putI (pc' := 94) f_X2_41 (by assumption) rfl rfl dX2_copyFrom_91 rfl ?_
  refine j_aload_n (pc' := 95) dX2_copyFrom_94 rfl rfl ?_
  refine j_aload_n (pc' := 96) dX2_copyFrom_95 rfl rfl ?_
  refine j_getIv (pc' := 99) f_X2_44 (by assumption) (by first | (simp (disch := omega) only [jx_upS, jx_upK, jx_upA, u1, u2, hz5, hz6]; rfl) | rfl) dX2_copyFrom_96 rfl ?_
  refine j_putI (pc' := 102) f_X2_44 (by assumption) rfl rfl dX2_copyFrom_99 rfl ?_
  refine j_retv dX2_copyFrom_102 rfl ?_
  refine ⟨fun b h1 h2 h3 => ?_, fun j hj => ?_, fun j hj => ?_, fun k hk1 hk2 => ?_⟩
  · funext k
    simp [jx_up, upd, va_up, h1, h2, h3]
  · simp [jx_up, upd, va_up, va_cpy, hj, n0, n1, n2]
  · simp [jx_up, upd, va_up, va_cpy, hj, n0, n1, n2]
  · have hk : k = 2 ∨ k = 3 ∨ k = 4 ∨ k = 5 ∨ k = 6 ∨ k = 7 ∨ k = 8 ∨ k = 9 ∨ k = 10 := by omega
    rcases hk with rfl | rfl | rfl | rfl | rfl | rfl | rfl | rfl | rfl <;> simp [jx_up, upd, va_up, n0, n1, n2, hz5, hz6]

