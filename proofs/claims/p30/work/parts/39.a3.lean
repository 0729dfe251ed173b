/-! ===== the class: the flood and the log ===== -/
def sFl (kd : jx_K) (R : jx_R) (f : Nat) : Prop := kd f = (0, 0) ∧ kd (f + 1) = (7, 60) ∧ R f 0 = some (f + 1)
def sLg (kd : jx_K) (R : jx_R) (g : Nat) : Prop := kd g = (1, 0) ∧ kd (g + 1) = (7, 30) ∧ kd (g + 2) = (7, 30) ∧ kd (g + 3) = (7, 30) ∧ R g 0 = some (g + 1) ∧ R g 1 = some (g + 2) ∧ R g 2 = some (g + 3)
def rgR (r v : Nat → Int32) (T : Nat) : Prop := ∀ t, 1 ≤ t → t ≤ T → T < t + 60 → r (t % 60) = v (16 + t % 64)

set_option maxRecDepth 100000 in
set_option maxHeartbeats 4000000 in
theorem c_X0_openTime {E : jx_E} {l : Launch} {n : Nat} {kd : jx_K} {R : jx_R} {I : jx_I} {f : Nat} {t : Nat} (hf : sFl kd R f) (ht : t ≤ 100000) : jx_Cv E l yX0_openTime cX0_openTime 2 none 1 n kd R (I) [.ref f, .int (nI t)] (fun I' => I' = jx_up I (f + 1) (t % 60) (nI 0)) := by
  obtain ⟨K0, K1, R0⟩ := id hf
  have hm60 : t % 60 < 60 := Nat.mod_lt _ (by decide)
  refine jx_C0.ofJ RX0 [some (.ref f), some (.int (nI t))] (by decide) rfl rfl (Nat.le_of_ble_eq_true rfl) rfl ?_
  refine j_aload_n (pc' := 1) dX0_openTime_0 rfl rfl ?_
  refine j_getR (pc' := 4) f_X0_9 (by assumption) (by assumption) dX0_openTime_1 rfl ?_
  refine j_iload_n (pc' := 5) dX0_openTime_4 rfl rfl ?_
  refine j_bipush (pc' := 7) (v := nI 60) dX0_openTime_5 rfl rfl ?_
  refine j_cSi (pc' := 10) m_X0_38 (c_floorMod (by omega) (by omega) (by omega)) rfl rfl ⟨Nat.le_of_ble_eq_true rfl, Nat.le_of_ble_eq_true rfl⟩ ⟨Nat.zero_le _, Nat.zero_le _⟩ (Nat.le_of_ble_eq_true rfl) dX0_openTime_7 rfl (fun x1 I1 hq => ?_)
  obtain ⟨rfl, rfl⟩ := hq
  refine j_iconst (pc' := 11) (v := nI 0) dX0_openTime_10 rfl rfl ?_
  refine j_iast (pc' := 12) (by assumption) rfl (by omega) (by omega) dX0_openTime_11 rfl ?_
  refine j_retv dX0_openTime_12 rfl ?_
  rfl

set_option maxRecDepth 100000 in
set_option maxHeartbeats 4000000 in
theorem c_X0_addActivation {E : jx_E} {l : Launch} {n : Nat} {kd : jx_K} {R : jx_R} {I : jx_I} {f : Nat} {t : Nat} (hf : sFl kd R f) (ht : t ≤ 100000) : jx_Cv E l yX0_addActivation cX0_addActivation 2 none 1 n kd R (I) [.ref f, .int (nI t)] (fun I' => I' = jx_up I (f + 1) (t % 60) (I (f + 1) (t % 60) + nI 1)) := by
  obtain ⟨K0, K1, R0⟩ := id hf
  have hm60 : t % 60 < 60 := Nat.mod_lt _ (by decide)
  refine jx_C0.ofJ RX0 [some (.ref f), some (.int (nI t))] (by decide) rfl rfl (Nat.le_of_ble_eq_true rfl) rfl ?_
  refine j_aload_n (pc' := 1) dX0_addActivation_0 rfl rfl ?_
  refine j_getR (pc' := 4) f_X0_9 (by assumption) (by assumption) dX0_addActivation_1 rfl ?_
  refine j_iload_n (pc' := 5) dX0_addActivation_4 rfl rfl ?_
  refine j_bipush (pc' := 7) (v := nI 60) dX0_addActivation_5 rfl rfl ?_
  refine j_cSi (pc' := 10) m_X0_38 (c_floorMod (by omega) (by omega) (by omega)) rfl rfl ⟨Nat.le_of_ble_eq_true rfl, Nat.le_of_ble_eq_true rfl⟩ ⟨Nat.zero_le _, Nat.zero_le _⟩ (Nat.le_of_ble_eq_true rfl) dX0_addActivation_7 rfl (fun x1 I1 hq => ?_)
  obtain ⟨rfl, rfl⟩ := hq
  refine j_dup2 (pc' := 11) dX0_addActivation_10 rfl rfl rfl ?_
  refine j_ialdv (pc' := 12) (by assumption) rfl (by omega) (by omega) (by first | (simp (disch := omega) only [jx_upS, jx_upK, jx_upA]; rfl) | rfl) dX0_addActivation_11 rfl ?_
  refine j_iconst (pc' := 13) (v := nI 1) dX0_addActivation_12 rfl rfl ?_
  refine j_iadd (pc' := 14) dX0_addActivation_13 rfl ?_
  refine j_iast (pc' := 15) (by assumption) rfl (by omega) (by omega) dX0_addActivation_14 rfl ?_
  refine j_retv dX0_addActivation_15 rfl ?_
  rfl

set_option maxRecDepth 100000 in
set_option maxHeartbeats 4000000 in
theorem lp_X0_rateAt {E : jx_E} {l : Launch} {n : Nat} {kd : jx_K} {R : jx_R} {I : jx_I} {f : Nat} {v : Nat → Int32} {T S : Nat} (hf : sFl kd R f) (hS : I f 1 = nI S) (hS1 : S ≤ 60) (hT1 : T ≤ 10000) (hr : rgR (I (f + 1)) v T) : ∀ (t : Nat) (x : Int32), t ≤ T → jx_J E l cX0_rateAt 4 (some .int) RX0 false (jx_rm 1) 0 0 (jx_Q0 n kd R (jx_Pi (fun r I' => r = rsum v T S t x ∧ I' = I))) 0 0 n kd R (I) 4 [some (.ref f), some (.int (nI T)), some (.int x), some (.int (nI (T - t)))] [] := by
  obtain ⟨K0, K1, R0⟩ := id hf
  intro t
  induction t with
  | zero =>
    intro x ht
    refine j_iload_n (pc' := 5) dX0_rateAt_4 rfl rfl ?_
    refine j_aload_n (pc' := 6) dX0_rateAt_5 rfl rfl ?_
    refine j_getIv (pc' := 9) f_X0_15 (by assumption) (by first | (simp (disch := omega) only [jx_upS, jx_upK, jx_upA, hS]; rfl) | rfl) dX0_rateAt_6 rfl ?_
    first | refine j_icmp_geN' (tgt := 39) (pc' := 12) (by with_reducible rfl) (by with_reducible rfl) (by omega) (by omega) dX0_rateAt_9 rfl (by decide) (fun c9 => ?_) (fun c9 => ?_) | refine j_icmp_ge (tgt := 39) (pc' := 12) dX0_rateAt_9 rfl (by decide) (fun c9 => ?_) (fun c9 => ?_)
    ·
      refine j_iload_n (pc' := 40) dX0_rateAt_39 rfl rfl ?_
      refine j_reti dX0_rateAt_40 rfl (by first | rfl | exact bi_n _) ?_
      exact ⟨rfl, rfl⟩
    ·
      refine j_iload_n (pc' := 13) dX0_rateAt_12 rfl rfl ?_
      refine j_iload_n (pc' := 14) dX0_rateAt_13 rfl rfl ?_
      first | refine j_icmp_geN' (tgt := 39) (pc' := 17) (by with_reducible rfl) (by with_reducible rfl) (by omega) (by omega) dX0_rateAt_14 rfl (by decide) (fun c14 => ?_) (fun c14 => ?_) | refine j_icmp_ge (tgt := 39) (pc' := 17) dX0_rateAt_14 rfl (by decide) (fun c14 => ?_) (fun c14 => ?_)
      ·
        refine j_iload_n (pc' := 40) dX0_rateAt_39 rfl rfl ?_
        refine j_reti dX0_rateAt_40 rfl (by first | rfl | exact bi_n _) ?_
        exact ⟨rfl, rfl⟩
      ·
        exact absurd c14 (by omega)
  | succ t ih =>
    intro x ht
    refine j_iload_n (pc' := 5) dX0_rateAt_4 rfl rfl ?_
    refine j_aload_n (pc' := 6) dX0_rateAt_5 rfl rfl ?_
    refine j_getIv (pc' := 9) f_X0_15 (by assumption) (by first | (simp (disch := omega) only [jx_upS, jx_upK, jx_upA, hS]; rfl) | rfl) dX0_rateAt_6 rfl ?_
    first | refine j_icmp_geN' (tgt := 39) (pc' := 12) (by with_reducible rfl) (by with_reducible rfl) (by omega) (by omega) dX0_rateAt_9 rfl (by decide) (fun c9 => ?_) (fun c9 => ?_) | refine j_icmp_ge (tgt := 39) (pc' := 12) dX0_rateAt_9 rfl (by decide) (fun c9 => ?_) (fun c9 => ?_)
    ·
      have hn : ¬ T < t + 1 + S := by omega
      refine j_iload_n (pc' := 40) dX0_rateAt_39 rfl rfl ?_
      refine j_reti dX0_rateAt_40 rfl (by first | rfl | exact bi_n _) ?_
      exact ⟨by rw [rsum, if_neg hn], rfl⟩
    ·
      have hn : T < t + 1 + S := by omega
      refine j_iload_n (pc' := 13) dX0_rateAt_12 rfl rfl ?_
      refine j_iload_n (pc' := 14) dX0_rateAt_13 rfl rfl ?_
      first | refine j_icmp_geN' (tgt := 39) (pc' := 17) (by with_reducible rfl) (by with_reducible rfl) (by omega) (by omega) dX0_rateAt_14 rfl (by decide) (fun c14 => ?_) (fun c14 => ?_) | refine j_icmp_ge (tgt := 39) (pc' := 17) dX0_rateAt_14 rfl (by decide) (fun c14 => ?_) (fun c14 => ?_)
      ·
        exact absurd c14 (by omega)
      ·
        refine j_iload_n (pc' := 18) dX0_rateAt_17 rfl rfl ?_
        refine j_aload_n (pc' := 19) dX0_rateAt_18 rfl rfl ?_
        have e1 : T - (T - (t + 1)) = t + 1 := by omega
        have hm60 : (T - (T - (t + 1))) % 60 < 60 := Nat.mod_lt _ (by decide)
        refine j_getR (pc' := 22) f_X0_9 (by assumption) (by assumption) dX0_rateAt_19 rfl ?_
        refine j_iload_n (pc' := 23) dX0_rateAt_22 rfl rfl ?_
        refine j_iload_n (pc' := 24) dX0_rateAt_23 rfl rfl ?_
        first | refine j_isubN' (pc' := 25) (by with_reducible rfl) (by with_reducible rfl) (by omega) dX0_rateAt_24 rfl ?_ | refine j_isub (pc' := 25) dX0_rateAt_24 rfl ?_
        refine j_bipush (pc' := 27) (v := nI 60) dX0_rateAt_25 rfl rfl ?_
        refine j_cSi (pc' := 30) m_X0_38 (c_floorMod (by omega) (by omega) (by omega)) rfl rfl ⟨Nat.le_of_ble_eq_true rfl, Nat.le_of_ble_eq_true rfl⟩ ⟨Nat.zero_le _, Nat.zero_le _⟩ (Nat.le_of_ble_eq_true rfl) dX0_rateAt_27 rfl (fun x1 I1 hq => ?_)
        obtain ⟨rfl, rfl⟩ := hq
        refine j_ialdv (pc' := 31) (by assumption) rfl (by omega) (by omega) (by first | (simp (disch := omega) only [jx_upS, jx_upK, jx_upA, hS]; rfl) | rfl) dX0_rateAt_30 rfl ?_
        refine j_iadd (pc' := 32) dX0_rateAt_31 rfl ?_
        refine j_istore_n (pc' := 33) (lv' := [_, _, _, _]) dX0_rateAt_32 rfl (by decide) rfl ?_
        first | refine j_iincN (pc' := 36) (lv' := [_, _, _, _]) dX0_rateAt_33 rfl rfl (by decide) rfl ?_ | refine j_iinc (pc' := 36) (lv' := [_, _, _, _]) dX0_rateAt_33 rfl rfl rfl (by decide) rfl ?_
        refine j_goto (tgt := 4) dX0_rateAt_36 (by decide) ?_
        rw [e1, hr (t + 1) (by omega) (by omega) (by omega)]
        have e2 : T - (t + 1) + 1 = T - t := by omega
        rw [e2]
        have h := ih (x + v (16 + (t + 1) % 64)) (by omega)
        rw [rsum, if_pos hn]
        exact h
set_option maxRecDepth 100000 in
set_option maxHeartbeats 4000000 in
theorem c_X0_rateAt {E : jx_E} {l : Launch} {n : Nat} {kd : jx_K} {R : jx_R} {I : jx_I} {f : Nat} {v : Nat → Int32} {T S : Nat} (hf : sFl kd R f) (hS : I f 1 = nI S) (hS1 : S ≤ 60) (hT1 : T ≤ 10000) (hr : rgR (I (f + 1)) v T) : jx_Ci E l yX0_rateAt cX0_rateAt 4 (some .int) 1 n kd R (I) [.ref f, .int (nI T)] (fun r I' => r = (rsum v T S T (nI 0)) ∧ I' = I) := by
  obtain ⟨K0, K1, R0⟩ := id hf
  refine jx_C0.ofJ RX0 [some (.ref f), some (.int (nI T)), none, none] (by decide) rfl rfl (Nat.le_of_ble_eq_true rfl) rfl ?_
  refine j_iconst (pc' := 1) (v := nI 0) dX0_rateAt_0 rfl rfl ?_
  refine j_istore_n (pc' := 2) (lv' := [_, _, _, _]) dX0_rateAt_1 rfl (by decide) rfl ?_
  refine j_iconst (pc' := 3) (v := nI 0) dX0_rateAt_2 rfl rfl ?_
  refine j_istore_n (pc' := 4) (lv' := [_, _, _, _]) dX0_rateAt_3 rfl (by decide) rfl ?_
  have h := lp_X0_rateAt (E := E) (l := l) (n := n) hf hS hS1 hT1 hr T (nI 0) (Nat.le_refl _)
  rw [Nat.sub_self] at h
  exact h

set_option maxRecDepth 100000 in
set_option maxHeartbeats 4000000 in
theorem c_X0_copyFrom {E : jx_E} {l : Launch} {n : Nat} {kd : jx_K} {R : jx_R} {I : jx_I} {f : Nat} {g : Nat} {z : Bool} (hf : sFl kd R f) (hg : sFl kd R g) (hfg : f + 1 < g ∨ g + 1 < f) (hz : I g 4 = bi z) : jx_Cv E l yX0_copyFrom cX0_copyFrom 2 none 1 n kd R (I) [.ref f, .ref g] (fun I' => (∀ b, b ≠ f → b ≠ f + 1 → I' b = I b) ∧ (∀ j, j < 60 → I' (f + 1) j = I (g + 1) j) ∧ I' f 1 = I g 1 ∧ I' f 2 = I g 2 ∧ I' f 3 = I g 3 ∧ I' f 4 = I g 4 ∧ I' f 5 = I g 5) := by
  obtain ⟨K0, K1, R0⟩ := id hf
  obtain ⟨L0, L1, P0⟩ := id hg
  have n1 : g ≠ f := by omega
  have n2 : g ≠ f + 1 := by omega
  have n3 : f ≠ f + 1 := by omega
  have n4 : f + 1 ≠ f := by omega
  have n5 : g + 1 ≠ f := by omega
  have n6 : g + 1 ≠ f + 1 := by omega
  have u1 : ∀ (f1 : Nat → Int32) (k : Nat), va_up I (f + 1) f1 g k = I g k := fun f1 k => by simp [va_up, n2]
  refine jx_C0.ofJ RX0 [some (.ref f), some (.ref g)] (by decide) rfl rfl (Nat.le_of_ble_eq_true rfl) rfl ?_
  refine j_aload_n (pc' := 1) dX0_copyFrom_0 rfl rfl ?_
  refine j_getR (pc' := 4) f_X0_9 (by assumption) (by assumption) dX0_copyFrom_1 rfl ?_
  refine j_iconst (pc' := 5) (v := nI 0) dX0_copyFrom_4 rfl rfl ?_
  refine j_aload_n (pc' := 6) dX0_copyFrom_5 rfl rfl ?_
  refine j_getR (pc' := 9) f_X0_9 (by assumption) (by assumption) dX0_copyFrom_6 rfl ?_
  refine j_iconst (pc' := 10) (v := nI 0) dX0_copyFrom_9 rfl rfl ?_
  refine j_bipush (pc' := 12) (v := nI 60) dX0_copyFrom_10 rfl rfl ?_
  refine j_copyI (pc' := 15) k_133 k_128 k_127 k_8 (by assumption) (by assumption) (by decide) (by decide) (by decide) (by decide) (Nat.le_of_ble_eq_true rfl) (by decide) dX0_copyFrom_12 rfl ?_
  refine j_aload_n (pc' := 16) dX0_copyFrom_15 rfl rfl ?_
  refine j_aload_n (pc' := 17) dX0_copyFrom_16 rfl rfl ?_
  refine j_getIv (pc' := 20) f_X0_15 (by assumption) (by first | (simp (disch := omega) only [jx_upS, jx_upK, jx_upA, u1, hz]; rfl) | rfl) dX0_copyFrom_17 rfl ?_
  refine j_putI (pc' := 23) f_X0_15 (by assumption) rfl rfl dX0_copyFrom_20 rfl ?_
  refine j_aload_n (pc' := 24) dX0_copyFrom_23 rfl rfl ?_
  refine j_aload_n (pc' := 25) dX0_copyFrom_24 rfl rfl ?_
  refine j_getIv (pc' := 28) f_X0_19 (by assumption) (by first | (simp (disch := omega) only [jx_upS, jx_upK, jx_upA, u1, hz]; rfl) | rfl) dX0_copyFrom_25 rfl ?_
  refine j_putI (pc' := 31) f_X0_19 (by assumption) rfl rfl dX0_copyFrom_28 rfl ?_
  refine j_aload_n (pc' := 32) dX0_copyFrom_31 rfl rfl ?_
  refine j_aload_n (pc' := 33) dX0_copyFrom_32 rfl rfl ?_
  refine j_getIv (pc' := 36) f_X0_22 (by assumption) (by first | (simp (disch := omega) only [jx_upS, jx_upK, jx_upA, u1, hz]; rfl) | rfl) dX0_copyFrom_33 rfl ?_
  refine j_putI (pc' := 39) f_X0_22 (by assumption) rfl rfl dX0_copyFrom_36 rfl ?_
  refine j_aload_n (pc' := 40) dX0_copyFrom_39 rfl rfl ?_
  refine j_aload_n (pc' := 41) dX0_copyFrom_40 rfl rfl ?_
  refine j_getIv (pc' := 44) f_X0_31 (by assumption) (by first | (simp (disch := omega) only [jx_upS, jx_upK, jx_upA, u1, hz]; rfl) | rfl) dX0_copyFrom_41 rfl ?_
  refine j_putI (pc' := 47) f_X0_31 (by assumption) (by first | rfl | exact bi_n _) (by first | rfl | exact bi_fit _) dX0_copyFrom_44 rfl ?_
  refine j_aload_n (pc' := 48) dX0_copyFrom_47 rfl rfl ?_
  refine j_aload_n (pc' := 49) dX0_copyFrom_48 rfl rfl ?_
  refine j_getIv (pc' := 52) f_X0_35 (by assumption) (by first | (simp (disch := omega) only [jx_upS, jx_upK, jx_upA, u1, hz]; rfl) | rfl) dX0_copyFrom_49 rfl ?_
  refine j_putI (pc' := 55) f_X0_35 (by assumption) rfl rfl dX0_copyFrom_52 rfl ?_
  refine j_retv dX0_copyFrom_55 rfl ?_
  refine ⟨fun b h1 h2 => ?_, fun j hj => ?_, ?_, ?_, ?_, ?_, ?_⟩
  · funext j
    simp [jx_up, upd, va_up, h1, h2]
  · simp [jx_up, upd, va_up, va_cpy, n4, hj]
  · simp [jx_up, upd, hz]
  · simp [jx_up, upd, hz]
  · simp [jx_up, upd, hz]
  · simp [jx_up, upd, hz]
  · simp [jx_up, upd, hz]

set_option maxRecDepth 100000 in
set_option maxHeartbeats 4000000 in
theorem c_X1_write {E : jx_E} {l : Launch} {n : Nat} {kd : jx_K} {R : jx_R} {I : jx_I} {g : Nat} {N : Nat} {x w q : Int32} (hg : sLg kd R g) (hN : I g 3 = nI N) (hNb : N < 2147483000) : jx_Cv E l yX1_write cX1_write 5 none 1 n kd R (I) [.ref g, .int x, .int w, .int q] (fun I' => I' = jx_up (jx_up (jx_up (jx_up I (g + 1) (N % 30) x) (g + 2) (N % 30) w) (g + 3) (N % 30) q) g 3 (nI (N + 1))) := by
  obtain ⟨K0, K1, K2, K3, R0, R1, R2⟩ := id hg
  have hm30 : N % 30 < 30 := Nat.mod_lt _ (by decide)
  refine jx_C0.ofJ RX1 [some (.ref g), some (.int x), some (.int w), some (.int q), none] (by decide) rfl rfl (Nat.le_of_ble_eq_true rfl) rfl ?_
  refine j_aload_n (pc' := 1) dX1_write_0 rfl rfl ?_
  refine j_getIv (pc' := 4) f_X1_27 (by assumption) (by first | (simp (disch := omega) only [jx_upS, jx_upK, jx_upA, hN]; rfl) | rfl) dX1_write_1 rfl ?_
  refine j_bipush (pc' := 6) (v := nI 30) dX1_write_4 rfl rfl ?_
  refine j_cSi (pc' := 9) m_X1_31 (c_floorMod (by omega) (by omega) (by omega)) rfl rfl ⟨Nat.le_of_ble_eq_true rfl, Nat.le_of_ble_eq_true rfl⟩ ⟨Nat.zero_le _, Nat.zero_le _⟩ (Nat.le_of_ble_eq_true rfl) dX1_write_6 rfl (fun x1 I1 hq => ?_)
  obtain ⟨rfl, rfl⟩ := hq
  refine j_istore (pc' := 11) (lv' := [_, _, _, _, _]) dX1_write_9 rfl (by decide) rfl ?_
  refine j_aload_n (pc' := 12) dX1_write_11 rfl rfl ?_
  refine j_getR (pc' := 15) f_X1_9 (by assumption) (by assumption) dX1_write_12 rfl ?_
  refine j_iload (pc' := 17) dX1_write_15 rfl rfl ?_
  refine j_iload_n (pc' := 18) dX1_write_17 rfl rfl ?_
  refine j_iast (pc' := 19) (by assumption) rfl (by omega) (by omega) dX1_write_18 rfl ?_
  refine j_aload_n (pc' := 20) dX1_write_19 rfl rfl ?_
  refine j_getR (pc' := 23) f_X1_15 (by assumption) (by assumption) dX1_write_20 rfl ?_
  refine j_iload (pc' := 25) dX1_write_23 rfl rfl ?_
  refine j_iload_n (pc' := 26) dX1_write_25 rfl rfl ?_
  refine j_iast (pc' := 27) (by assumption) rfl (by omega) (by omega) dX1_write_26 rfl ?_
  refine j_aload_n (pc' := 28) dX1_write_27 rfl rfl ?_
  refine j_getR (pc' := 31) f_X1_18 (by assumption) (by assumption) dX1_write_28 rfl ?_
  refine j_iload (pc' := 33) dX1_write_31 rfl rfl ?_
  refine j_iload_n (pc' := 34) dX1_write_33 rfl rfl ?_
  refine j_iast (pc' := 35) (by assumption) rfl (by omega) (by omega) dX1_write_34 rfl ?_
  refine j_aload_n (pc' := 36) dX1_write_35 rfl rfl ?_
  refine j_dup (pc' := 37) dX1_write_36 rfl rfl ?_
  refine j_getIv (pc' := 40) f_X1_27 (by assumption) (by first | (simp (disch := omega) only [jx_upS, jx_upK, jx_upA, hN]; rfl) | rfl) dX1_write_37 rfl ?_
  refine j_iconst (pc' := 41) (v := nI 1) dX1_write_40 rfl rfl ?_
  first | refine j_iaddN' (pc' := 42) (by with_reducible rfl) (by with_reducible rfl) dX1_write_41 rfl ?_ | refine j_iadd (pc' := 42) dX1_write_41 rfl ?_
  refine j_putI (pc' := 45) f_X1_27 (by assumption) rfl rfl dX1_write_42 rfl ?_
  refine j_retv dX1_write_45 rfl ?_
  rfl

set_option maxRecDepth 100000 in
set_option maxHeartbeats 4000000 in
theorem c_X1_kept {E : jx_E} {l : Launch} {n : Nat} {kd : jx_K} {R : jx_R} {I : jx_I} {g : Nat} {N : Nat} (hg : sLg kd R g) (hN : I g 3 = nI N) (hNb : N < 2147483000) : jx_Ci E l yX1_kept cX1_kept 1 (some .int) 1 n kd R (I) [.ref g] (fun r I' => r = (nI (wA N)) ∧ I' = I) := by
  obtain ⟨K0, K1, K2, K3, R0, R1, R2⟩ := id hg
  refine jx_C0.ofJ RX1 [some (.ref g)] (by decide) rfl rfl (Nat.le_of_ble_eq_true rfl) rfl ?_
  refine j_aload_n (pc' := 1) dX1_kept_0 rfl rfl ?_
  refine j_getIv (pc' := 4) f_X1_27 (by assumption) (by first | (simp (disch := omega) only [jx_upS, jx_upK, jx_upA, hN]; rfl) | rfl) dX1_kept_1 rfl ?_
  refine j_bipush (pc' := 6) (v := nI 30) dX1_kept_4 rfl rfl ?_
  refine j_cSi (pc' := 9) m_X1_37 (c_min (by omega) (by omega)) rfl rfl ⟨Nat.le_of_ble_eq_true rfl, Nat.le_of_ble_eq_true rfl⟩ ⟨Nat.zero_le _, Nat.zero_le _⟩ (Nat.le_of_ble_eq_true rfl) dX1_kept_6 rfl (fun x1 I1 hq => ?_)
  obtain ⟨rfl, rfl⟩ := hq
  refine j_reti dX1_kept_9 rfl (by first | rfl | exact bi_n _) ?_
  exact ⟨rfl, rfl⟩

def aLg (I : jx_I) (g : Nat) (v : Nat → Int32) : Prop := I g 3 = v 9 ∧ ∀ j, j < 30 → I (g + 1) j = v (80 + 3 * j + 0) ∧ I (g + 2) j = v (80 + 3 * j + 1) ∧ I (g + 3) j = v (80 + 3 * j + 2)
set_option maxRecDepth 100000 in
set_option maxHeartbeats 4000000 in
theorem c_X1_eventNumber {E : jx_E} {l : Launch} {n : Nat} {kd : jx_K} {R : jx_R} {I : jx_I} {g : Nat} {v : Nat → Int32} {N i w : Nat} (hg : sLg kd R g) (h : aLg I g v) (hN : v 9 = nI N) (hNb : N < 2147483000) (hi : i < N) (hw : w ≤ 2) : jx_Ci E l yX1_eventNumber cX1_eventNumber 4 (some .int) 1 n kd R (I) [.ref g, .int (nI i), .int (nI w)] (fun r I' => r = (v (80 + 3 * ((N - 1 - i) % 30) + w)) ∧ I' = I) := by
  obtain ⟨K0, K1, K2, K3, R0, R1, R2⟩ := id hg
  have hm30 : (N - 1 - i) % 30 < 30 := Nat.mod_lt _ (by decide)
  have hT := h.1.trans hN
  obtain ⟨e0, e1, e2⟩ := h.2 _ hm30
  refine jx_C0.ofJ RX1 [some (.ref g), some (.int (nI i)), some (.int (nI w)), none] (by decide) rfl rfl (Nat.le_of_ble_eq_true rfl) rfl ?_
  refine j_aload_n (pc' := 1) dX1_eventNumber_0 rfl rfl ?_
  refine j_getIv (pc' := 4) f_X1_27 (by assumption) (by first | (simp (disch := omega) only [jx_upS, jx_upK, jx_upA, hT, e0, e1, e2]; rfl) | rfl) dX1_eventNumber_1 rfl ?_
  refine j_iconst (pc' := 5) (v := nI 1) dX1_eventNumber_4 rfl rfl ?_
  first | refine j_isubN' (pc' := 6) (by with_reducible rfl) (by with_reducible rfl) (by omega) dX1_eventNumber_5 rfl ?_ | refine j_isub (pc' := 6) dX1_eventNumber_5 rfl ?_
  refine j_iload_n (pc' := 7) dX1_eventNumber_6 rfl rfl ?_
  first | refine j_isubN' (pc' := 8) (by with_reducible rfl) (by with_reducible rfl) (by omega) dX1_eventNumber_7 rfl ?_ | refine j_isub (pc' := 8) dX1_eventNumber_7 rfl ?_
  refine j_bipush (pc' := 10) (v := nI 30) dX1_eventNumber_8 rfl rfl ?_
  refine j_cSi (pc' := 13) m_X1_31 (c_floorMod (by omega) (by omega) (by omega)) rfl rfl ⟨Nat.le_of_ble_eq_true rfl, Nat.le_of_ble_eq_true rfl⟩ ⟨Nat.zero_le _, Nat.zero_le _⟩ (Nat.le_of_ble_eq_true rfl) dX1_eventNumber_10 rfl (fun x1 I1 hq => ?_)
  obtain ⟨rfl, rfl⟩ := hq
  refine j_istore_n (pc' := 14) (lv' := [_, _, _, _]) dX1_eventNumber_13 rfl (by decide) rfl ?_
  refine j_iload_n (pc' := 15) dX1_eventNumber_14 rfl rfl ?_
  first | refine j_if_neB' (tgt := 25) (pc' := 18) (by with_reducible rfl) dX1_eventNumber_15 rfl (by decide) (fun c15 => ?_) (fun c15 => ?_) | refine j_if_neN' (tgt := 25) (pc' := 18) (by with_reducible rfl) (by omega) dX1_eventNumber_15 rfl (by decide) (fun c15 => ?_) (fun c15 => ?_) | refine j_if_ne (tgt := 25) (pc' := 18) dX1_eventNumber_15 rfl (by decide) (fun c15 => ?_) (fun c15 => ?_)
  ·
    refine j_iload_n (pc' := 26) dX1_eventNumber_25 rfl rfl ?_
    refine j_iconst (pc' := 27) (v := nI 1) dX1_eventNumber_26 rfl rfl ?_
    first | refine j_icmp_neN' (tgt := 39) (pc' := 30) (by with_reducible rfl) (by with_reducible rfl) (by omega) (by omega) dX1_eventNumber_27 rfl (by decide) (fun c27 => ?_) (fun c27 => ?_) | refine j_icmp_ne (tgt := 39) (pc' := 30) dX1_eventNumber_27 rfl (by decide) (fun c27 => ?_) (fun c27 => ?_)
    ·
      refine j_aload_n (pc' := 40) dX1_eventNumber_39 rfl rfl ?_
      refine j_getR (pc' := 43) f_X1_18 (by assumption) (by assumption) dX1_eventNumber_40 rfl ?_
      refine j_iload_n (pc' := 44) dX1_eventNumber_43 rfl rfl ?_
      refine j_ialdv (pc' := 45) (by assumption) rfl (by omega) (by omega) (by first | (simp (disch := omega) only [jx_upS, jx_upK, jx_upA, hT, e0, e1, e2]; rfl) | rfl) dX1_eventNumber_44 rfl ?_
      refine j_reti dX1_eventNumber_45 rfl (by first | rfl | exact bi_n _) ?_
      have e : w = 2 := by omega
      subst e
      exact ⟨rfl, rfl⟩
    ·
      skip
      refine j_aload_n (pc' := 31) dX1_eventNumber_30 rfl rfl ?_
      refine j_getR (pc' := 34) f_X1_15 (by assumption) (by assumption) dX1_eventNumber_31 rfl ?_
      refine j_iload_n (pc' := 35) dX1_eventNumber_34 rfl rfl ?_
      refine j_ialdv (pc' := 36) (by assumption) rfl (by omega) (by omega) (by first | (simp (disch := omega) only [jx_upS, jx_upK, jx_upA, hT, e0, e1, e2]; rfl) | rfl) dX1_eventNumber_35 rfl ?_
      refine j_goto (tgt := 45) dX1_eventNumber_36 (by decide) ?_
      refine j_reti dX1_eventNumber_45 rfl (by first | rfl | exact bi_n _) ?_
      have e : w = 1 := by omega
      subst e
      exact ⟨rfl, rfl⟩
  ·
    refine j_aload_n (pc' := 19) dX1_eventNumber_18 rfl rfl ?_
    refine j_getR (pc' := 22) f_X1_9 (by assumption) (by assumption) dX1_eventNumber_19 rfl ?_
    refine j_iload_n (pc' := 23) dX1_eventNumber_22 rfl rfl ?_
    refine j_ialdv (pc' := 24) (by assumption) rfl (by omega) (by omega) (by first | (simp (disch := omega) only [jx_upS, jx_upK, jx_upA, hT, e0, e1, e2]; rfl) | rfl) dX1_eventNumber_23 rfl ?_
    refine j_reti dX1_eventNumber_24 rfl (by first | rfl | exact bi_n _) ?_
    have e : w = 0 := by omega
    subst e
    exact ⟨rfl, rfl⟩

