def tk0 (v : Nat → Int32) (T : Nat) : Nat → Int32 := upd (upd v 1 (nI (T + 1))) (16 + (T + 1) % 64) (nI 0)
theorem tk0_o {v : Nat → Int32} {T j : Nat} (h1 : j ≠ 1) (h2 : j < 16 ∨ 80 ≤ j) : tk0 v T j = v j := by
  have hT : (T + 1) % 64 < 64 := Nat.mod_lt _ (by decide)
  unfold tk0
  rw [pk_un (by omega), pk_un (by omega)]
theorem tk0_1 {v : Nat → Int32} {T : Nat} : tk0 v T 1 = nI (T + 1) := by
  unfold tk0
  rw [pk_un (by omega), pk_us]
def lookA (v : Nat → Int32) (T : Nat) : Nat → (Nat → Int32)
  | 0 => v
  | i + 1 => sLook (lookA v T i) T i
theorem lookA_o {v : Nat → Int32} {T j : Nat} (h1 : j ≠ 8 ∧ j ≠ 9) (h2 : j < 16) : ∀ i, lookA v T i j = v j := by
  intro i
  induction i with
  | zero => rfl
  | succ i ih => rw [lookA, sLook_o h1 (Or.inl h2) (by omega), ih]
theorem lookA_f {v : Nat → Int32} {T a w : Nat} (hw : w < 56) (h : w ≠ 9 ∧ w ≠ 10 ∧ w ≠ 11 ∧ w ≠ 12 ∧ w ≠ 14) : ∀ i, lookA v T i (176 + 56 * a + w) = v (176 + 56 * a + w) := by
  intro i
  induction i with
  | zero => rfl
  | succ i ih => rw [lookA, sLook_o (by omega) (by omega) (by omega), ih]
theorem lookA_9 {v : Nat → Int32} {T N : Nat} (hN : v 9 = nI N) (hb : N + 20 < 2147483000) : ∀ i, i ≤ 16 → ∃ N', N ≤ N' ∧ N' ≤ N + i ∧ lookA v T i 9 = nI N' := by
  intro i
  induction i with
  | zero => intro _; exact ⟨N, Nat.le_refl _, by omega, hN⟩
  | succ i ih =>
    intro hi
    obtain ⟨N', h1, h2, h3⟩ := ih (by omega)
    obtain ⟨N2, h4, h5, h6⟩ := sLook_9 (T := T) (i := i) h3 (by omega)
    exact ⟨N2, by omega, by omega, by rw [lookA]; exact h6⟩
def shA (v : Nat → Int32) (T : Nat) : Nat → (Nat → Int32)
  | 0 => v
  | i + 1 => if shA v T i (176 + 56 * i + 13) ≤ 0 then shA v T i else if nI T < shA v T i (176 + 56 * i + 13) then shA v T i else sHap (upd (shA v T i) (176 + 56 * i + 13) (nI 0)) (nI 5) (nI i)
theorem shA_o {v : Nat → Int32} {T j : Nat} (h1 : j ≠ 9) (h2 : j < 80) : ∀ i, shA v T i j = v j := by
  intro i
  induction i with
  | zero => rfl
  | succ i ih =>
    rw [shA]
    split
    · exact ih
    · split
      · exact ih
      · rw [sHap_o (by omega), pk_un (by omega), ih]
theorem shA_f {v : Nat → Int32} {T a w : Nat} (hw : w < 56) (h : w ≠ 13) : ∀ i, shA v T i (176 + 56 * a + w) = v (176 + 56 * a + w) := by
  intro i
  induction i with
  | zero => rfl
  | succ i ih =>
    rw [shA]
    split
    · exact ih
    · split
      · exact ih
      · rw [sHap_o (by omega), pk_un (by omega), ih]
theorem shA_9 {v : Nat → Int32} {T N : Nat} (hN : v 9 = nI N) (hb : N + 20 < 2147483000) : ∀ i, i ≤ 16 → ∃ N', N ≤ N' ∧ N' ≤ N + i ∧ shA v T i 9 = nI N' := by
  intro i
  induction i with
  | zero => intro _; exact ⟨N, Nat.le_refl _, by omega, hN⟩
  | succ i ih =>
    intro hi
    obtain ⟨N', h1, h2, h3⟩ := ih (by omega)
    rw [shA]
    split
    · exact ⟨N', h1, by omega, h3⟩
    · split
      · exact ⟨N', h1, by omega, h3⟩
      · exact ⟨N' + 1, by omega, by omega, sHap_9 (by rw [pk_un (by omega), h3]) (by omega)⟩
def fld (v : Nat → Int32) (T S : Nat) : Nat → Int32 :=
  if v 3 = 0 then if rsum v T S T (nI 0) ≤ v 6 then v else sHap (upd (upd v 3 (nI 1)) 4 (nI T)) (nI 6) (-20009)
  else if v 3 = nI 1 then if v 7 < rsum v T S T (nI 0) then v else sHap (upd v 3 (nI 0)) (nI 7) (-20009)
  else v
theorem fld_o {v : Nat → Int32} {T S j : Nat} (h1 : j ≠ 3 ∧ j ≠ 4 ∧ j ≠ 9) (h2 : j < 80 ∨ 170 ≤ j) : fld v T S j = v j := by
  unfold fld
  split
  · split
    · rfl
    · rw [sHap_o (by omega), pk_un (by omega), pk_un (by omega)]
  · split
    · split
      · rfl
      · rw [sHap_o (by omega), pk_un (by omega)]
    · rfl
theorem fld_9 {v : Nat → Int32} {T S N : Nat} (hN : v 9 = nI N) (hb : N < 2147483000) : ∃ N', N ≤ N' ∧ N' ≤ N + 1 ∧ fld v T S 9 = nI N' := by
  unfold fld
  split
  · split
    · exact ⟨N, Nat.le_refl _, by omega, hN⟩
    · exact ⟨N + 1, by omega, by omega, sHap_9 (by rw [pk_un (by omega), pk_un (by omega), hN]) hb⟩
  · split
    · split
      · exact ⟨N, Nat.le_refl _, by omega, hN⟩
      · exact ⟨N + 1, by omega, by omega, sHap_9 (by rw [pk_un (by omega), hN]) hb⟩
    · exact ⟨N, Nat.le_refl _, by omega, hN⟩
def kpt (v : Nat → Int32) (i : Nat) : Nat := (v (176 + 56 * i + 15)).toNatClampNeg
def ptA (v : Nat → Int32) : Nat → (Nat → Int32)
  | 0 => v
  | i + 1 => upd (upd (ptA v i) (176 + 56 * i + (16 + kpt v i % 40)) (v (176 + 56 * i + 7))) (176 + 56 * i + 15) (nI (kpt v i + 1))
theorem ptA_o {v : Nat → Int32} {j : Nat} (h : j < 176) : ∀ i, ptA v i j = v j := by
  intro i
  induction i with
  | zero => rfl
  | succ i ih =>
    have : kpt v i % 40 < 40 := Nat.mod_lt _ (by decide)
    rw [ptA, pk_un (by omega), pk_un (by omega), ih]
theorem ptA_f {v : Nat → Int32} {a w : Nat} (hw : w < 15) : ∀ i, ptA v i (176 + 56 * a + w) = v (176 + 56 * a + w) := by
  intro i
  induction i with
  | zero => rfl
  | succ i ih =>
    have : kpt v i % 40 < 40 := Nat.mod_lt _ (by decide)
    rw [ptA, pk_un (by omega), pk_un (by omega), ih]
theorem ptA_n {v : Nat → Int32} {a w i : Nat} (hw : w < 56) (ha : i ≤ a) : ptA v i (176 + 56 * a + w) = v (176 + 56 * a + w) := by
  induction i with
  | zero => rfl
  | succ i ih =>
    have : kpt v i % 40 < 40 := Nat.mod_lt _ (by decide)
    rw [ptA, pk_un (by omega), pk_un (by omega), ih (by omega)]
def sTick (v : Nat → Int32) (k T S : Nat) : Nat → Int32 := ptA (fld (shA (lookA (tk0 v T) (T + 1) k) (T + 1) k) (T + 1) S) k

set_option maxRecDepth 100000 in
set_option maxHeartbeats 4000000 in
theorem lp1_X6_ticksOnce {E : jx_E} {l : Launch} {n : Nat} {kd : jx_K} {R : jx_R} {I0 : jx_I} {m : Nat} {F v a p o t c : Nat → Int32} {Q : jx_Q} (hs : sMd kd R m) {k T N : Nat} (h16 : k ≤ 16) (hk : v 0 = nI k) (hT : v 1 = nI T) (hT1 : T ≤ 10000) (hN : v 9 = nI N) (hNb : N + 40 < 2147483000) (hx : jx_J E l cX6_ticksOnce 2 none RX6 false (jx_rm 3) 0 0 (Q) 0 0 n kd R (mI I0 m F (lookA v T k) a p o t c) 51 [some (.ref m), some (.int (nI k))] []) : ∀ (z i : Nat), i ≤ k → z + i = k + 1 → jx_J E l cX6_ticksOnce 2 none RX6 false (jx_rm 3) 0 0 (Q) 0 0 n kd R (mI I0 m F (lookA v T i) a p o t c) 30 [some (.ref m), some (.int (nI i))] [] := by
  obtain ⟨K0, K1, K2, K3, K4, K5, K6, R0, R1, R2, R4, R6, R10⟩ := id hs
  intro z
  induction z with
  | zero => intro i hi hz; omega
  | succ z ih =>
    intro i hi hz
    have hu0 : lookA v T i 0 = nI k := by rw [lookA_o (by omega) (by omega), hk]
    have hu1 : lookA v T i 1 = nI T := by rw [lookA_o (by omega) (by omega), hT]
    obtain ⟨N', -, hN2, hu9⟩ := lookA_9 (T := T) hN (by omega) i (by omega)
    refine j_iload_n (pc' := 31) dX6_ticksOnce_30 rfl rfl ?_
    refine j_aload_n (pc' := 32) dX6_ticksOnce_31 rfl rfl ?_
    refine j_getR (pc' := 35) f_X6_7 (by assumption) (by assumption) dX6_ticksOnce_32 rfl ?_
    refine j_iconst (pc' := 36) (v := nI 0) dX6_ticksOnce_35 rfl rfl ?_
    refine j_ialdv (pc' := 37) (by assumption) rfl (by omega) (by omega) (by first | (simp (disch := omega) only [jx_upS, jx_upK, jx_upA, mI_0, mI_1, mI_2, mI_3, mI_4, mI_5, mI_6, pk_us, pk_un, hu0]; rfl) | rfl) dX6_ticksOnce_36 rfl ?_
    first | refine j_icmp_geN' (tgt := 51) (pc' := 40) (by with_reducible rfl) (by with_reducible rfl) (by omega) (by omega) dX6_ticksOnce_37 rfl (by decide) (fun c37 => ?_) (fun c37 => ?_) | refine j_icmp_ge (tgt := 51) (pc' := 40) dX6_ticksOnce_37 rfl (by decide) (fun c37 => ?_) (fun c37 => ?_)
    ·
      have : i = k := by omega
      subst this
      exact hx
    ·
      refine j_aload_n (pc' := 41) dX6_ticksOnce_40 rfl rfl ?_
      refine j_iload_n (pc' := 42) dX6_ticksOnce_41 rfl rfl ?_
      refine j_cVv (pc' := 45) m_X6_100 (c_X6_looks hs (by omega) hu1 (by omega) hu9 (by omega)) (by assumption) (by decide) rfl rfl rfl ⟨Nat.le_of_ble_eq_true rfl, Nat.le_of_ble_eq_true rfl⟩ ⟨Nat.zero_le _, Nat.zero_le _⟩ (Nat.le_of_ble_eq_true rfl) dX6_ticksOnce_42 rfl (fun I1 hq => ?_)
      subst hq
      first | refine j_iincN (pc' := 48) (lv' := [_, _]) dX6_ticksOnce_45 rfl rfl (by decide) rfl ?_ | refine j_iinc (pc' := 48) (lv' := [_, _]) dX6_ticksOnce_45 rfl rfl rfl (by decide) rfl ?_
      refine j_goto (tgt := 30) dX6_ticksOnce_48 (by decide) ?_
      exact ih (i + 1) (by omega) (by omega)
set_option maxRecDepth 100000 in
set_option maxHeartbeats 4000000 in
theorem lp2_X6_ticksOnce {E : jx_E} {l : Launch} {n : Nat} {kd : jx_K} {R : jx_R} {I0 : jx_I} {m : Nat} {F v a p o t c : Nat → Int32} {Q : jx_Q} (hs : sMd kd R m) {k T N : Nat} (h16 : k ≤ 16) (hk : v 0 = nI k) (hT : v 1 = nI T) (hT1 : T ≤ 10000) (hN : v 9 = nI N) (hNb : N + 40 < 2147483000) (hx : jx_J E l cX6_ticksOnce 2 none RX6 false (jx_rm 3) 0 0 (Q) 0 0 n kd R (mI I0 m F (shA v T k) a p o t c) 100 [some (.ref m), some (.int (nI k))] []) : ∀ (z i : Nat), i ≤ k → z + i = k + 1 → jx_J E l cX6_ticksOnce 2 none RX6 false (jx_rm 3) 0 0 (Q) 0 0 n kd R (mI I0 m F (shA v T i) a p o t c) 53 [some (.ref m), some (.int (nI i))] [] := by
  obtain ⟨K0, K1, K2, K3, K4, K5, K6, R0, R1, R2, R4, R6, R10⟩ := id hs
  intro z
  induction z with
  | zero => intro i hi hz; omega
  | succ z ih =>
    intro i hi hz
    have hu0 : shA v T i 0 = nI k := by rw [shA_o (by omega) (by omega), hk]
    have hu1 : shA v T i 1 = nI T := by rw [shA_o (by omega) (by omega), hT]
    obtain ⟨N', -, hN2, hu9⟩ := shA_9 (T := T) hN (by omega) i (by omega)
    refine j_iload_n (pc' := 54) dX6_ticksOnce_53 rfl rfl ?_
    refine j_aload_n (pc' := 55) dX6_ticksOnce_54 rfl rfl ?_
    refine j_getR (pc' := 58) f_X6_7 (by assumption) (by assumption) dX6_ticksOnce_55 rfl ?_
    refine j_iconst (pc' := 59) (v := nI 0) dX6_ticksOnce_58 rfl rfl ?_
    refine j_ialdv (pc' := 60) (by assumption) rfl (by omega) (by omega) (by first | (simp (disch := omega) only [jx_upS, jx_upK, jx_upA, mI_0, mI_1, mI_2, mI_3, mI_4, mI_5, mI_6, pk_us, pk_un, hu0, hu1]; rfl) | rfl) dX6_ticksOnce_59 rfl ?_
    first | refine j_icmp_geN' (tgt := 100) (pc' := 63) (by with_reducible rfl) (by with_reducible rfl) (by omega) (by omega) dX6_ticksOnce_60 rfl (by decide) (fun c60 => ?_) (fun c60 => ?_) | refine j_icmp_ge (tgt := 100) (pc' := 63) dX6_ticksOnce_60 rfl (by decide) (fun c60 => ?_) (fun c60 => ?_)
    ·
      have : i = k := by omega
      subst this
      exact hx
    ·
      refine j_aload_n (pc' := 64) dX6_ticksOnce_63 rfl rfl ?_
      refine j_iload_n (pc' := 65) dX6_ticksOnce_64 rfl rfl ?_
      refine j_bipush (pc' := 67) (v := nI 13) dX6_ticksOnce_65 rfl rfl ?_
      refine j_cVi (pc' := 70) m_X6_59 (c_X6_ofv hs (by omega) (by omega) rfl) (by assumption) (by decide) rfl rfl rfl ⟨Nat.le_of_ble_eq_true rfl, Nat.le_of_ble_eq_true rfl⟩ ⟨Nat.zero_le _, Nat.zero_le _⟩ (Nat.le_of_ble_eq_true rfl) dX6_ticksOnce_67 rfl (fun x1 I1 hq => ?_)
      obtain ⟨rfl, rfl⟩ := hq
      first | refine j_if_leN' (tgt := 94) (pc' := 73) (by with_reducible rfl) (by omega) dX6_ticksOnce_70 rfl (by decide) (fun c70 => ?_) (fun c70 => ?_) | refine j_if_le (tgt := 94) (pc' := 73) dX6_ticksOnce_70 rfl (by decide) (fun c70 => ?_) (fun c70 => ?_)
      ·
        first | refine j_iincN (pc' := 97) (lv' := [_, _]) dX6_ticksOnce_94 rfl rfl (by decide) rfl ?_ | refine j_iinc (pc' := 97) (lv' := [_, _]) dX6_ticksOnce_94 rfl rfl rfl (by decide) rfl ?_
        refine j_goto (tgt := 53) dX6_ticksOnce_97 (by decide) ?_
        have h := ih (i + 1) (by omega) (by omega)
        rw [shA, if_pos c70] at h
        exact h
      ·
        refine j_aload_n (pc' := 74) dX6_ticksOnce_73 rfl rfl ?_
        refine j_iload_n (pc' := 75) dX6_ticksOnce_74 rfl rfl ?_
        refine j_bipush (pc' := 77) (v := nI 13) dX6_ticksOnce_75 rfl rfl ?_
        refine j_cVi (pc' := 80) m_X6_59 (c_X6_ofv hs (by omega) (by omega) rfl) (by assumption) (by decide) rfl rfl rfl ⟨Nat.le_of_ble_eq_true rfl, Nat.le_of_ble_eq_true rfl⟩ ⟨Nat.zero_le _, Nat.zero_le _⟩ (Nat.le_of_ble_eq_true rfl) dX6_ticksOnce_77 rfl (fun x1 I1 hq => ?_)
        obtain ⟨rfl, rfl⟩ := hq
        refine j_aload_n (pc' := 81) dX6_ticksOnce_80 rfl rfl ?_
        refine j_getR (pc' := 84) f_X6_7 (by assumption) (by assumption) dX6_ticksOnce_81 rfl ?_
        refine j_iconst (pc' := 85) (v := nI 1) dX6_ticksOnce_84 rfl rfl ?_
        refine j_ialdv (pc' := 86) (by assumption) rfl (by omega) (by omega) (by first | (simp (disch := omega) only [jx_upS, jx_upK, jx_upA, mI_0, mI_1, mI_2, mI_3, mI_4, mI_5, mI_6, pk_us, pk_un, hu0, hu1]; rfl) | rfl) dX6_ticksOnce_85 rfl ?_
        first | refine j_icmp_gtN' (tgt := 94) (pc' := 89) (by with_reducible rfl) (by with_reducible rfl) (by omega) (by omega) dX6_ticksOnce_86 rfl (by decide) (fun c86 => ?_) (fun c86 => ?_) | refine j_icmp_gt (tgt := 94) (pc' := 89) dX6_ticksOnce_86 rfl (by decide) (fun c86 => ?_) (fun c86 => ?_)
        ·
          first | refine j_iincN (pc' := 97) (lv' := [_, _]) dX6_ticksOnce_94 rfl rfl (by decide) rfl ?_ | refine j_iinc (pc' := 97) (lv' := [_, _]) dX6_ticksOnce_94 rfl rfl rfl (by decide) rfl ?_
          refine j_goto (tgt := 53) dX6_ticksOnce_97 (by decide) ?_
          have h := ih (i + 1) (by omega) (by omega)
          rw [shA, if_neg c70, if_pos c86] at h
          exact h
        ·
          skip
          refine j_aload_n (pc' := 90) dX6_ticksOnce_89 rfl rfl ?_
          refine j_iload_n (pc' := 91) dX6_ticksOnce_90 rfl rfl ?_
          refine j_cVv (pc' := 94) m_X6_63 (c_X6_leavesShelf hs (by omega) hu9 (by omega)) (by assumption) (by decide) rfl rfl rfl ⟨Nat.le_of_ble_eq_true rfl, Nat.le_of_ble_eq_true rfl⟩ ⟨Nat.zero_le _, Nat.zero_le _⟩ (Nat.le_of_ble_eq_true rfl) dX6_ticksOnce_91 rfl (fun I1 hq => ?_)
          subst hq
          first | refine j_iincN (pc' := 97) (lv' := [_, _]) dX6_ticksOnce_94 rfl rfl (by decide) rfl ?_ | refine j_iinc (pc' := 97) (lv' := [_, _]) dX6_ticksOnce_94 rfl rfl rfl (by decide) rfl ?_
          refine j_goto (tgt := 53) dX6_ticksOnce_97 (by decide) ?_
          have h := ih (i + 1) (by omega) (by omega)
          rw [shA, if_neg c70, if_neg c86] at h
          exact h
set_option maxRecDepth 100000 in
set_option maxHeartbeats 4000000 in
theorem lp3_X6_ticksOnce {E : jx_E} {l : Launch} {n : Nat} {kd : jx_K} {R : jx_R} {I0 : jx_I} {m : Nat} {F v a p o t c : Nat → Int32} {Q : jx_Q} (hs : sMd kd R m) {k : Nat} (h16 : k ≤ 16) (hk : v 0 = nI k) (hK : ∀ i, i < k → ∃ K, K ≤ 100000 ∧ v (176 + 56 * i + 15) = nI K) (hx : jx_J E l cX6_ticksOnce 2 none RX6 false (jx_rm 3) 0 0 (Q) 0 0 n kd R (mI I0 m F (ptA v k) a p o t c) 253 [some (.ref m), some (.int (nI k))] []) : ∀ (z i : Nat), i ≤ k → z + i = k + 1 → jx_J E l cX6_ticksOnce 2 none RX6 false (jx_rm 3) 0 0 (Q) 0 0 n kd R (mI I0 m F (ptA v i) a p o t c) 196 [some (.ref m), some (.int (nI i))] [] := by
  obtain ⟨K0, K1, K2, K3, K4, K5, K6, R0, R1, R2, R4, R6, R10⟩ := id hs
  intro z
  induction z with
  | zero => intro i hi hz; omega
  | succ z ih =>
    intro i hi hz
    have hu0 : ptA v i 0 = nI k := by rw [ptA_o (by omega), hk]
    obtain ⟨K, hK1, hK0⟩ : ∃ K, K ≤ 100000 ∧ (i < k → v (176 + 56 * i + 15) = nI K) := by
      by_cases hik : i < k
      · obtain ⟨K, h1, h2⟩ := hK i hik
        exact ⟨K, h1, fun _ => h2⟩
      · exact ⟨0, by omega, fun h => absurd h hik⟩
    have hK2 : i < k → ptA v i (176 + 56 * i + 15) = nI K := fun hik => by rw [ptA_n (by omega) (by omega), hK0 hik]
    have hu7 : ptA v i (176 + 56 * i + 7) = v (176 + 56 * i + 7) := ptA_n (by omega) (by omega)
    have hkp : i < k → kpt v i = K := fun hik => by rw [kpt, hK0 hik, nI_clamp (by omega)]
    have hm40 : K % 40 < 40 := Nat.mod_lt _ (by decide)
    refine j_iload_n (pc' := 197) dX6_ticksOnce_196 rfl rfl ?_
    refine j_aload_n (pc' := 198) dX6_ticksOnce_197 rfl rfl ?_
    refine j_getR (pc' := 201) f_X6_7 (by assumption) (by assumption) dX6_ticksOnce_198 rfl ?_
    refine j_iconst (pc' := 202) (v := nI 0) dX6_ticksOnce_201 rfl rfl ?_
    refine j_ialdv (pc' := 203) (by assumption) rfl (by omega) (by omega) (by first | (simp (disch := omega) only [jx_upS, jx_upK, jx_upA, mI_0, mI_1, mI_2, mI_3, mI_4, mI_5, mI_6, pk_us, pk_un, hu0]; rfl) | rfl) dX6_ticksOnce_202 rfl ?_
    first | refine j_icmp_geN' (tgt := 253) (pc' := 206) (by with_reducible rfl) (by with_reducible rfl) (by omega) (by omega) dX6_ticksOnce_203 rfl (by decide) (fun c203 => ?_) (fun c203 => ?_) | refine j_icmp_ge (tgt := 253) (pc' := 206) dX6_ticksOnce_203 rfl (by decide) (fun c203 => ?_) (fun c203 => ?_)
    ·
      have : i = k := by omega
      subst this
      exact hx
    ·
      refine j_aload_n (pc' := 207) dX6_ticksOnce_206 rfl rfl ?_
      refine j_iload_n (pc' := 208) dX6_ticksOnce_207 rfl rfl ?_
      refine j_bipush (pc' := 210) (v := nI 16) dX6_ticksOnce_208 rfl rfl ?_
      refine j_aload_n (pc' := 211) dX6_ticksOnce_210 rfl rfl ?_
      refine j_iload_n (pc' := 212) dX6_ticksOnce_211 rfl rfl ?_
      refine j_bipush (pc' := 214) (v := nI 15) dX6_ticksOnce_212 rfl rfl ?_
      refine j_cVi (pc' := 217) m_X6_59 (c_X6_ofv hs (by omega) (by omega) (hK2 c203)) (by assumption) (by decide) rfl rfl rfl ⟨Nat.le_of_ble_eq_true rfl, Nat.le_of_ble_eq_true rfl⟩ ⟨Nat.zero_le _, Nat.zero_le _⟩ (Nat.le_of_ble_eq_true rfl) dX6_ticksOnce_214 rfl (fun x1 I1 hq => ?_)
      obtain ⟨rfl, rfl⟩ := hq
      refine j_bipush (pc' := 219) (v := nI 40) dX6_ticksOnce_217 rfl rfl ?_
      refine j_iremN' (pc' := 220) (by with_reducible rfl) (by with_reducible rfl) (by omega) (by omega) (by omega) dX6_ticksOnce_219 rfl ?_
      first | refine j_iaddN' (pc' := 221) (by with_reducible rfl) (by with_reducible rfl) dX6_ticksOnce_220 rfl ?_ | refine j_iadd (pc' := 221) dX6_ticksOnce_220 rfl ?_
      refine j_aload_n (pc' := 222) dX6_ticksOnce_221 rfl rfl ?_
      refine j_iload_n (pc' := 223) dX6_ticksOnce_222 rfl rfl ?_
      refine j_bipush (pc' := 225) (v := nI 7) dX6_ticksOnce_223 rfl rfl ?_
      refine j_cVi (pc' := 228) m_X6_59 (c_X6_ofv hs (by omega) (by omega) hu7) (by assumption) (by decide) rfl rfl rfl ⟨Nat.le_of_ble_eq_true rfl, Nat.le_of_ble_eq_true rfl⟩ ⟨Nat.zero_le _, Nat.zero_le _⟩ (Nat.le_of_ble_eq_true rfl) dX6_ticksOnce_225 rfl (fun x1 I1 hq => ?_)
      obtain ⟨rfl, rfl⟩ := hq
      refine j_cVv (pc' := 231) m_X6_44 (c_X6_puts hs (by omega) (by omega)) (by assumption) (by decide) rfl rfl rfl ⟨Nat.le_of_ble_eq_true rfl, Nat.le_of_ble_eq_true rfl⟩ ⟨Nat.zero_le _, Nat.zero_le _⟩ (Nat.le_of_ble_eq_true rfl) dX6_ticksOnce_228 rfl (fun I1 hq => ?_)
      subst hq
      refine j_aload_n (pc' := 232) dX6_ticksOnce_231 rfl rfl ?_
      refine j_iload_n (pc' := 233) dX6_ticksOnce_232 rfl rfl ?_
      refine j_bipush (pc' := 235) (v := nI 15) dX6_ticksOnce_233 rfl rfl ?_
      refine j_aload_n (pc' := 236) dX6_ticksOnce_235 rfl rfl ?_
      refine j_iload_n (pc' := 237) dX6_ticksOnce_236 rfl rfl ?_
      refine j_bipush (pc' := 239) (v := nI 15) dX6_ticksOnce_237 rfl rfl ?_
      refine j_cVi (pc' := 242) m_X6_59 (c_X6_ofv hs (by omega) (by omega) ((pk_un (by omega)).trans (hK2 c203))) (by assumption) (by decide) rfl rfl rfl ⟨Nat.le_of_ble_eq_true rfl, Nat.le_of_ble_eq_true rfl⟩ ⟨Nat.zero_le _, Nat.zero_le _⟩ (Nat.le_of_ble_eq_true rfl) dX6_ticksOnce_239 rfl (fun x1 I1 hq => ?_)
      obtain ⟨rfl, rfl⟩ := hq
      refine j_iconst (pc' := 243) (v := nI 1) dX6_ticksOnce_242 rfl rfl ?_
      first | refine j_iaddN' (pc' := 244) (by with_reducible rfl) (by with_reducible rfl) dX6_ticksOnce_243 rfl ?_ | refine j_iadd (pc' := 244) dX6_ticksOnce_243 rfl ?_
      refine j_cVv (pc' := 247) m_X6_44 (c_X6_puts hs (by omega) (by omega)) (by assumption) (by decide) rfl rfl rfl ⟨Nat.le_of_ble_eq_true rfl, Nat.le_of_ble_eq_true rfl⟩ ⟨Nat.zero_le _, Nat.zero_le _⟩ (Nat.le_of_ble_eq_true rfl) dX6_ticksOnce_244 rfl (fun I1 hq => ?_)
      subst hq
      first | refine j_iincN (pc' := 250) (lv' := [_, _]) dX6_ticksOnce_247 rfl rfl (by decide) rfl ?_ | refine j_iinc (pc' := 250) (lv' := [_, _]) dX6_ticksOnce_247 rfl rfl rfl (by decide) rfl ?_
      refine j_goto (tgt := 196) dX6_ticksOnce_250 (by decide) ?_
      have h := ih (i + 1) (by omega) (by omega)
      rw [ptA, hkp c203] at h
      exact h
set_option maxRecDepth 100000 in
set_option maxHeartbeats 4000000 in
theorem c_X6_ticksOnce {E : jx_E} {l : Launch} {n : Nat} {kd : jx_K} {R : jx_R} {I0 : jx_I} {m : Nat} {F v a p o t c : Nat → Int32} (hs : sMd kd R m) {k T S N : Nat} (h16 : k ≤ 16) (hk : v 0 = nI k) (hT : v 1 = nI T) (hT1 : T < 10000) (hS : v 5 = nI S) (hS1 : S ≤ 60) (hN : v 9 = nI N) (hNb : N + 100 < 2147483000) (hK : ∀ i, i < k → ∃ K, K ≤ 100000 ∧ v (176 + 56 * i + 15) = nI K) : jx_Cv E l yX6_ticksOnce cX6_ticksOnce 2 none 3 n kd R (mI I0 m F v a p o t c) [.ref m] (fun I' => I' = mI I0 m F (sTick v k T S) a p o t c) := by
  obtain ⟨K0, K1, K2, K3, K4, K5, K6, R0, R1, R2, R4, R6, R10⟩ := id hs
  have q0 : tk0 v T 0 = nI k := by rw [tk0_o (by omega) (by omega), hk]
  have q1 : tk0 v T 1 = nI (T + 1) := tk0_1
  have q9 : tk0 v T 9 = nI N := by rw [tk0_o (by omega) (by omega), hN]
  have r0 : lookA (tk0 v T) (T + 1) k 0 = nI k := by rw [lookA_o (by omega) (by omega), q0]
  have r1 : lookA (tk0 v T) (T + 1) k 1 = nI (T + 1) := by rw [lookA_o (by omega) (by omega), q1]
  obtain ⟨N1, hN1, hN2, r9⟩ := lookA_9 (T := T + 1) q9 (by omega) k h16
  have s0 : shA (lookA (tk0 v T) (T + 1) k) (T + 1) k 0 = nI k := by rw [shA_o (by omega) (by omega), r0]
  have s1 : shA (lookA (tk0 v T) (T + 1) k) (T + 1) k 1 = nI (T + 1) := by rw [shA_o (by omega) (by omega), r1]
  have s5 : shA (lookA (tk0 v T) (T + 1) k) (T + 1) k 5 = nI S := by rw [shA_o (by omega) (by omega), lookA_o (by omega) (by omega), tk0_o (by omega) (by omega), hS]
  obtain ⟨N3, hN3, hN4, s9⟩ := shA_9 (T := T + 1) r9 (by omega) k h16
  have f0 : fld (shA (lookA (tk0 v T) (T + 1) k) (T + 1) k) (T + 1) S 0 = nI k := by rw [fld_o (by omega) (by omega), s0]
  have fK : ∀ i, i < k → ∃ K, K ≤ 100000 ∧ fld (shA (lookA (tk0 v T) (T + 1) k) (T + 1) k) (T + 1) S (176 + 56 * i + 15) = nI K := fun i hi => by
    obtain ⟨K, h1, h2⟩ := hK i hi
    exact ⟨K, h1, by rw [fld_o (by omega) (by omega), shA_f (by omega) (by omega), lookA_f (by omega) (by omega), tk0_o (by omega) (by omega), h2]⟩
  have hend : jx_J E l cX6_ticksOnce 2 none RX6 false (jx_rm 3) 0 0 (jx_Q0 n kd R (jx_Pv (fun I' => I' = mI I0 m F (sTick v k T S) a p o t c))) 0 0 n kd R (mI I0 m F (fld (shA (lookA (tk0 v T) (T + 1) k) (T + 1) k) (T + 1) S) a p o t c) 194 [some (.ref m), some (.int (nI k))] [] := by
    refine j_iconst (pc' := 195) (v := nI 0) dX6_ticksOnce_194 rfl rfl ?_
    refine j_istore_n (pc' := 196) (lv' := [_, _]) dX6_ticksOnce_195 rfl (by decide) rfl ?_
    change jx_J E l cX6_ticksOnce 2 none RX6 false (jx_rm 3) 0 0 _ 0 0 n kd R (mI I0 m F (ptA (fld (shA (lookA (tk0 v T) (T + 1) k) (T + 1) k) (T + 1) S) 0) a p o t c) 196 [some (.ref m), some (.int (nI 0))] []
    refine lp3_X6_ticksOnce hs h16 f0 fK ?_ (k + 1) 0 (by omega) (by omega)
    refine j_retv dX6_ticksOnce_253 rfl ?_
    rfl
  refine jx_C0.ofJ RX6 [some (.ref m), none] (by decide) rfl rfl (Nat.le_of_ble_eq_true rfl) rfl ?_
  refine j_aload_n (pc' := 1) dX6_ticksOnce_0 rfl rfl ?_
  refine j_getR (pc' := 4) f_X6_7 (by assumption) (by assumption) dX6_ticksOnce_1 rfl ?_
  refine j_iconst (pc' := 5) (v := nI 1) dX6_ticksOnce_4 rfl rfl ?_
  refine j_dup2 (pc' := 6) dX6_ticksOnce_5 rfl rfl rfl ?_
  refine j_ialdv (pc' := 7) (by assumption) rfl (by omega) (by omega) (by first | (simp (disch := omega) only [jx_upS, jx_upK, jx_upA, mI_0, mI_1, mI_2, mI_3, mI_4, mI_5, mI_6, pk_us, pk_un, hT, q1]; rfl) | rfl) dX6_ticksOnce_6 rfl ?_
  refine j_iconst (pc' := 8) (v := nI 1) dX6_ticksOnce_7 rfl rfl ?_
  first | refine j_iaddN' (pc' := 9) (by with_reducible rfl) (by with_reducible rfl) dX6_ticksOnce_8 rfl ?_ | refine j_iadd (pc' := 9) dX6_ticksOnce_8 rfl ?_
  refine j_iast (pc' := 10) (by assumption) rfl (by omega) (by omega) dX6_ticksOnce_9 rfl ?_
  first | refine j_eqI mW_1 ?_ | refine j_eqI mW_2 ?_ | refine j_eqI mW_3 ?_ | refine j_eqI mW_4 ?_ | refine j_eqI mW_5 ?_ | refine j_eqI mW_6 ?_
  have hm64 : (T + 1) % 64 < 64 := Nat.mod_lt _ (by decide)
  refine j_aload_n (pc' := 11) dX6_ticksOnce_10 rfl rfl ?_
  refine j_getR (pc' := 14) f_X6_7 (by assumption) (by assumption) dX6_ticksOnce_11 rfl ?_
  refine j_bipush (pc' := 16) (v := nI 16) dX6_ticksOnce_14 rfl rfl ?_
  refine j_aload_n (pc' := 17) dX6_ticksOnce_16 rfl rfl ?_
  refine j_getR (pc' := 20) f_X6_7 (by assumption) (by assumption) dX6_ticksOnce_17 rfl ?_
  refine j_iconst (pc' := 21) (v := nI 1) dX6_ticksOnce_20 rfl rfl ?_
  refine j_ialdv (pc' := 22) (by assumption) rfl (by omega) (by omega) (by first | (simp (disch := omega) only [jx_upS, jx_upK, jx_upA, mI_0, mI_1, mI_2, mI_3, mI_4, mI_5, mI_6, pk_us, pk_un, hT, q1]; rfl) | rfl) dX6_ticksOnce_21 rfl ?_
  refine j_bipush (pc' := 24) (v := nI 64) dX6_ticksOnce_22 rfl rfl ?_
  refine j_iremN' (pc' := 25) (by with_reducible rfl) (by with_reducible rfl) (by omega) (by omega) (by omega) dX6_ticksOnce_24 rfl ?_
  first | refine j_iaddN' (pc' := 26) (by with_reducible rfl) (by with_reducible rfl) dX6_ticksOnce_25 rfl ?_ | refine j_iadd (pc' := 26) dX6_ticksOnce_25 rfl ?_
  refine j_iconst (pc' := 27) (v := nI 0) dX6_ticksOnce_26 rfl rfl ?_
  refine j_iast (pc' := 28) (by assumption) rfl (by omega) (by omega) dX6_ticksOnce_27 rfl ?_
  first | refine j_eqI mW_1 ?_ | refine j_eqI mW_2 ?_ | refine j_eqI mW_3 ?_ | refine j_eqI mW_4 ?_ | refine j_eqI mW_5 ?_ | refine j_eqI mW_6 ?_
  refine j_iconst (pc' := 29) (v := nI 0) dX6_ticksOnce_28 rfl rfl ?_
  refine j_istore_n (pc' := 30) (lv' := [_, _]) dX6_ticksOnce_29 rfl (by decide) rfl ?_
  change jx_J E l cX6_ticksOnce 2 none RX6 false (jx_rm 3) 0 0 _ 0 0 n kd R (mI I0 m F (lookA (tk0 v T) (T + 1) 0) a p o t c) 30 [some (.ref m), some (.int (nI 0))] []
  refine lp1_X6_ticksOnce hs h16 q0 q1 (by omega) q9 (by omega) ?_ (k + 1) 0 (by omega) (by omega)
  refine j_iconst (pc' := 52) (v := nI 0) dX6_ticksOnce_51 rfl rfl ?_
  refine j_istore_n (pc' := 53) (lv' := [_, _]) dX6_ticksOnce_52 rfl (by decide) rfl ?_
  change jx_J E l cX6_ticksOnce 2 none RX6 false (jx_rm 3) 0 0 _ 0 0 n kd R (mI I0 m F (shA (lookA (tk0 v T) (T + 1) k) (T + 1) 0) a p o t c) 53 [some (.ref m), some (.int (nI 0))] []
  refine lp2_X6_ticksOnce hs h16 r0 r1 (by omega) r9 (by omega) ?_ (k + 1) 0 (by omega) (by omega)
  refine j_aload_n (pc' := 101) dX6_ticksOnce_100 rfl rfl ?_
  refine j_getR (pc' := 104) f_X6_7 (by assumption) (by assumption) dX6_ticksOnce_101 rfl ?_
  refine j_iconst (pc' := 105) (v := nI 3) dX6_ticksOnce_104 rfl rfl ?_
  refine j_ialdv (pc' := 106) (by assumption) rfl (by omega) (by omega) (by first | (simp (disch := omega) only [jx_upS, jx_upK, jx_upA, mI_0, mI_1, mI_2, mI_3, mI_4, mI_5, mI_6, pk_us, pk_un, s1]; rfl) | rfl) dX6_ticksOnce_105 rfl ?_
  first | refine j_if_neB' (tgt := 154) (pc' := 109) (by with_reducible rfl) dX6_ticksOnce_106 rfl (by decide) (fun c106 => ?_) (fun c106 => ?_) | refine j_if_neN' (tgt := 154) (pc' := 109) (by with_reducible rfl) (by omega) dX6_ticksOnce_106 rfl (by decide) (fun c106 => ?_) (fun c106 => ?_) | refine j_if_ne (tgt := 154) (pc' := 109) dX6_ticksOnce_106 rfl (by decide) (fun c106 => ?_) (fun c106 => ?_)
  ·
    refine j_aload_n (pc' := 155) dX6_ticksOnce_154 rfl rfl ?_
    refine j_getR (pc' := 158) f_X6_7 (by assumption) (by assumption) dX6_ticksOnce_155 rfl ?_
    refine j_iconst (pc' := 159) (v := nI 3) dX6_ticksOnce_158 rfl rfl ?_
    refine j_ialdv (pc' := 160) (by assumption) rfl (by omega) (by omega) (by first | (simp (disch := omega) only [jx_upS, jx_upK, jx_upA, mI_0, mI_1, mI_2, mI_3, mI_4, mI_5, mI_6, pk_us, pk_un, s1]; rfl) | rfl) dX6_ticksOnce_159 rfl ?_
    refine j_iconst (pc' := 161) (v := nI 1) dX6_ticksOnce_160 rfl rfl ?_
    first | refine j_icmp_neN' (tgt := 194) (pc' := 164) (by with_reducible rfl) (by with_reducible rfl) (by omega) (by omega) dX6_ticksOnce_161 rfl (by decide) (fun c161 => ?_) (fun c161 => ?_) | refine j_icmp_ne (tgt := 194) (pc' := 164) dX6_ticksOnce_161 rfl (by decide) (fun c161 => ?_) (fun c161 => ?_)
    ·
      skip
      have h := hend
      rw [fld, if_neg c106, if_neg c161] at h
      exact h
    ·
      skip
      refine j_aload_n (pc' := 165) dX6_ticksOnce_164 rfl rfl ?_
      refine j_cVi (pc' := 168) m_X6_103 (c_X6_rate hs s1 s5 (by omega) hS1) (by assumption) (by decide) rfl rfl rfl ⟨Nat.le_of_ble_eq_true rfl, Nat.le_of_ble_eq_true rfl⟩ ⟨Nat.zero_le _, Nat.zero_le _⟩ (Nat.le_of_ble_eq_true rfl) dX6_ticksOnce_165 rfl (fun x1 I1 hq => ?_)
      obtain ⟨rfl, rfl⟩ := hq
      refine j_aload_n (pc' := 169) dX6_ticksOnce_168 rfl rfl ?_
      refine j_getR (pc' := 172) f_X6_7 (by assumption) (by assumption) dX6_ticksOnce_169 rfl ?_
      refine j_bipush (pc' := 174) (v := nI 7) dX6_ticksOnce_172 rfl rfl ?_
      refine j_ialdv (pc' := 175) (by assumption) rfl (by omega) (by omega) (by first | (simp (disch := omega) only [jx_upS, jx_upK, jx_upA, mI_0, mI_1, mI_2, mI_3, mI_4, mI_5, mI_6, pk_us, pk_un, s1]; rfl) | rfl) dX6_ticksOnce_174 rfl ?_
      first | refine j_icmp_gtN' (tgt := 194) (pc' := 178) (by with_reducible rfl) (by with_reducible rfl) (by omega) (by omega) dX6_ticksOnce_175 rfl (by decide) (fun c175 => ?_) (fun c175 => ?_) | refine j_icmp_gt (tgt := 194) (pc' := 178) dX6_ticksOnce_175 rfl (by decide) (fun c175 => ?_) (fun c175 => ?_)
      ·
        skip
        have h := hend
        rw [fld, if_neg c106, if_pos c161, if_pos c175] at h
        exact h
      ·
        refine j_aload_n (pc' := 179) dX6_ticksOnce_178 rfl rfl ?_
        refine j_getR (pc' := 182) f_X6_7 (by assumption) (by assumption) dX6_ticksOnce_179 rfl ?_
        refine j_iconst (pc' := 183) (v := nI 3) dX6_ticksOnce_182 rfl rfl ?_
        refine j_iconst (pc' := 184) (v := nI 0) dX6_ticksOnce_183 rfl rfl ?_
        refine j_iast (pc' := 185) (by assumption) rfl (by omega) (by omega) dX6_ticksOnce_184 rfl ?_
        first | refine j_eqI mW_1 ?_ | refine j_eqI mW_2 ?_ | refine j_eqI mW_3 ?_ | refine j_eqI mW_4 ?_ | refine j_eqI mW_5 ?_ | refine j_eqI mW_6 ?_
        refine j_aload_n (pc' := 186) dX6_ticksOnce_185 rfl rfl ?_
        refine j_bipush (pc' := 188) (v := nI 7) dX6_ticksOnce_186 rfl rfl ?_
        refine j_sipush (pc' := 191) (v := -20009) dX6_ticksOnce_188 rfl rfl ?_
        refine j_cVv (pc' := 194) m_X6_48 (c_X6_happens hs (N := N3) (by first | exact s9 | (simp (disch := omega) only [pk_us, pk_un]; exact s9)) (by omega)) (by assumption) (by decide) rfl rfl rfl ⟨Nat.le_of_ble_eq_true rfl, Nat.le_of_ble_eq_true rfl⟩ ⟨Nat.zero_le _, Nat.zero_le _⟩ (Nat.le_of_ble_eq_true rfl) dX6_ticksOnce_191 rfl (fun I1 hq => ?_)
        subst hq
        have h := hend
        rw [fld, if_neg c106, if_pos c161, if_neg c175] at h
        exact h
  ·
    skip
    refine j_aload_n (pc' := 110) dX6_ticksOnce_109 rfl rfl ?_
    refine j_cVi (pc' := 113) m_X6_103 (c_X6_rate hs s1 s5 (by omega) hS1) (by assumption) (by decide) rfl rfl rfl ⟨Nat.le_of_ble_eq_true rfl, Nat.le_of_ble_eq_true rfl⟩ ⟨Nat.zero_le _, Nat.zero_le _⟩ (Nat.le_of_ble_eq_true rfl) dX6_ticksOnce_110 rfl (fun x1 I1 hq => ?_)
    obtain ⟨rfl, rfl⟩ := hq
    refine j_aload_n (pc' := 114) dX6_ticksOnce_113 rfl rfl ?_
    refine j_getR (pc' := 117) f_X6_7 (by assumption) (by assumption) dX6_ticksOnce_114 rfl ?_
    refine j_bipush (pc' := 119) (v := nI 6) dX6_ticksOnce_117 rfl rfl ?_
    refine j_ialdv (pc' := 120) (by assumption) rfl (by omega) (by omega) (by first | (simp (disch := omega) only [jx_upS, jx_upK, jx_upA, mI_0, mI_1, mI_2, mI_3, mI_4, mI_5, mI_6, pk_us, pk_un, s1]; rfl) | rfl) dX6_ticksOnce_119 rfl ?_
    first | refine j_icmp_leN' (tgt := 154) (pc' := 123) (by with_reducible rfl) (by with_reducible rfl) (by omega) (by omega) dX6_ticksOnce_120 rfl (by decide) (fun c120 => ?_) (fun c120 => ?_) | refine j_icmp_le (tgt := 154) (pc' := 123) dX6_ticksOnce_120 rfl (by decide) (fun c120 => ?_) (fun c120 => ?_)
    ·
      refine j_aload_n (pc' := 155) dX6_ticksOnce_154 rfl rfl ?_
      refine j_getR (pc' := 158) f_X6_7 (by assumption) (by assumption) dX6_ticksOnce_155 rfl ?_
      refine j_iconst (pc' := 159) (v := nI 3) dX6_ticksOnce_158 rfl rfl ?_
      refine j_ialdv (pc' := 160) (by assumption) rfl (by omega) (by omega) (by first | (simp (disch := omega) only [jx_upS, jx_upK, jx_upA, mI_0, mI_1, mI_2, mI_3, mI_4, mI_5, mI_6, pk_us, pk_un, s1]; rfl) | rfl) dX6_ticksOnce_159 rfl ?_
      refine j_iconst (pc' := 161) (v := nI 1) dX6_ticksOnce_160 rfl rfl ?_
      first | refine j_icmp_neN' (tgt := 194) (pc' := 164) (by with_reducible rfl) (by with_reducible rfl) (by omega) (by omega) dX6_ticksOnce_161 rfl (by decide) (fun c161 => ?_) (fun c161 => ?_) | refine j_icmp_ne (tgt := 194) (pc' := 164) dX6_ticksOnce_161 rfl (by decide) (fun c161 => ?_) (fun c161 => ?_)
      ·
        skip
        have h := hend
        rw [fld, if_pos c106, if_pos c120] at h
        exact h
      ·
        exact absurd (c106.symm.trans c161) (by decide)
    ·
      skip
      refine j_aload_n (pc' := 124) dX6_ticksOnce_123 rfl rfl ?_
      refine j_getR (pc' := 127) f_X6_7 (by assumption) (by assumption) dX6_ticksOnce_124 rfl ?_
      refine j_iconst (pc' := 128) (v := nI 3) dX6_ticksOnce_127 rfl rfl ?_
      refine j_iconst (pc' := 129) (v := nI 1) dX6_ticksOnce_128 rfl rfl ?_
      refine j_iast (pc' := 130) (by assumption) rfl (by omega) (by omega) dX6_ticksOnce_129 rfl ?_
      first | refine j_eqI mW_1 ?_ | refine j_eqI mW_2 ?_ | refine j_eqI mW_3 ?_ | refine j_eqI mW_4 ?_ | refine j_eqI mW_5 ?_ | refine j_eqI mW_6 ?_
      refine j_aload_n (pc' := 131) dX6_ticksOnce_130 rfl rfl ?_
      refine j_getR (pc' := 134) f_X6_7 (by assumption) (by assumption) dX6_ticksOnce_131 rfl ?_
      refine j_iconst (pc' := 135) (v := nI 4) dX6_ticksOnce_134 rfl rfl ?_
      refine j_aload_n (pc' := 136) dX6_ticksOnce_135 rfl rfl ?_
      refine j_getR (pc' := 139) f_X6_7 (by assumption) (by assumption) dX6_ticksOnce_136 rfl ?_
      refine j_iconst (pc' := 140) (v := nI 1) dX6_ticksOnce_139 rfl rfl ?_
      refine j_ialdv (pc' := 141) (by assumption) rfl (by omega) (by omega) (by first | (simp (disch := omega) only [jx_upS, jx_upK, jx_upA, mI_0, mI_1, mI_2, mI_3, mI_4, mI_5, mI_6, pk_us, pk_un, s1]; rfl) | rfl) dX6_ticksOnce_140 rfl ?_
      refine j_iast (pc' := 142) (by assumption) rfl (by omega) (by omega) dX6_ticksOnce_141 rfl ?_
      first | refine j_eqI mW_1 ?_ | refine j_eqI mW_2 ?_ | refine j_eqI mW_3 ?_ | refine j_eqI mW_4 ?_ | refine j_eqI mW_5 ?_ | refine j_eqI mW_6 ?_
      refine j_aload_n (pc' := 143) dX6_ticksOnce_142 rfl rfl ?_
      refine j_bipush (pc' := 145) (v := nI 6) dX6_ticksOnce_143 rfl rfl ?_
      refine j_sipush (pc' := 148) (v := -20009) dX6_ticksOnce_145 rfl rfl ?_
      refine j_cVv (pc' := 151) m_X6_48 (c_X6_happens hs (N := N3) (by first | exact s9 | (simp (disch := omega) only [pk_us, pk_un]; exact s9)) (by omega)) (by assumption) (by decide) rfl rfl rfl ⟨Nat.le_of_ble_eq_true rfl, Nat.le_of_ble_eq_true rfl⟩ ⟨Nat.zero_le _, Nat.zero_le _⟩ (Nat.le_of_ble_eq_true rfl) dX6_ticksOnce_148 rfl (fun I1 hq => ?_)
      subst hq
      refine j_goto (tgt := 194) dX6_ticksOnce_151 (by decide) ?_
      have h := hend
      rw [fld, if_pos c106, if_neg c120] at h
      exact h
