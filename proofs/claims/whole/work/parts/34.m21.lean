/-- the command j on a row, by the row's own numbers -/
def dsG (v c : Nat → Int32) (j : Nat) : Int32 × (Nat → Int32) := dsF v c (v 0).toNatClampNeg (v 1).toNatClampNeg (v 5).toNatClampNeg j
theorem dsG_of {v c : Nat → Int32} {k T S N j : Nat} (h : VI v k T S N) : dsG v c j = dsF v c k T S j := by
  have h1 := h.k16
  have h2 := h.tl
  have h3 := h.sl
  unfold dsG
  rw [h.z, h.t, h.s, nI_clamp (by omega), nI_clamp (by omega), nI_clamp (by omega)]
/-- z commands from j on: the one that fails, and the row there -/
def rnS (c : Nat → Int32) : Nat → Nat → (Nat → Int32) → Option Nat × (Nat → Int32)
  | 0, _, v => (none, v)
  | z + 1, j, v => if isE (dsG v c j).1 = true then (some j, (dsG v c j).2) else rnS c z (j + 1) (dsG v c j).2
def rnR (r : Option Nat × (Nat → Int32)) (D : Nat) : Int32 := match r.1 with | some j => -1000 - nI j | none => nI D

set_option maxRecDepth 100000 in
set_option maxHeartbeats 4000000 in
theorem lp_X6_run {E : jx_E} {l : Launch} {n : Nat} {kd : jx_K} {R : jx_R} {I0 : jx_I} {m : Nat} {F v a p o t c : Nat → Int32} {k S D q : Nat} (hs : sMd kd R m) (hD : F 9 = nI D) (hD2 : D ≤ 14) (hc : F 3 = nI q) (hc4 : q ≤ 4) : ∀ (z j : Nat) (v : Nat → Int32) (T N : Nat) (y : Option Value), z + j = D → VI v k T S N → N + 3300 * z + 5000 < 2147483000 → jx_J E l cX6_run 3 (some .int) RX6 false (jx_rm 6) 0 0 (jx_Q0 n kd R (jx_Pi (fun r I' => r = rnR (rnS c (z) j v) D ∧ I' = match (rnS c (z) j v).1 with | some _ => mI I0 m F (cpA a (rnS c (z) j v).2) a p o t c | none => mI I0 m (upd (upd F 3 (nI (kpC q))) 7 (nI 0)) (rnS c (z) j v).2 a (kpP p q a) o t c))) 0 0 n kd R (mI I0 m F v a p o t c) 28 [some (.ref m), some (.int (nI j)), y] [] := by
  obtain ⟨K0, K1, K2, K3, K4, K5, K6, R0, R1, R2, R4, R6, R10⟩ := id hs
  intro z
  induction z with
  | zero =>
    intro j v T N y hz hv hNb
    refine j_iload_n (pc' := 29) dX6_run_28 rfl rfl ?_
    refine j_aload_n (pc' := 30) dX6_run_29 rfl rfl ?_
    refine j_getIv (pc' := 33) f_X6_149 (by assumption) (by first | (simp (disch := omega) only [jx_upS, jx_upK, jx_upA, mI_0, mI_1, mI_2, mI_3, mI_4, mI_5, mI_6, pk_us, pk_un, hD]; rfl) | rfl) dX6_run_30 rfl ?_
    first | refine j_icmp_geN' (tgt := 79) (pc' := 36) (by with_reducible rfl) (by with_reducible rfl) (by omega) (by omega) dX6_run_33 rfl (by decide) (fun c33 => ?_) (fun c33 => ?_) | refine j_icmp_ge (tgt := 79) (pc' := 36) dX6_run_33 rfl (by decide) (fun c33 => ?_) (fun c33 => ?_)
    ·
      refine j_aload_n (pc' := 80) dX6_run_79 rfl rfl ?_
      refine j_aload_n (pc' := 81) dX6_run_80 rfl rfl ?_
      refine j_getR (pc' := 84) f_X6_13 (by assumption) (by assumption) dX6_run_81 rfl ?_
      refine j_cVv (pc' := 87) m_X6_40 (c_X6_keeps (row := a) hs K2 (fun F' q' => mI_2) hc hc4) (by assumption) (by decide) rfl rfl rfl ⟨Nat.le_of_ble_eq_true rfl, Nat.le_of_ble_eq_true rfl⟩ ⟨Nat.zero_le _, Nat.zero_le _⟩ (Nat.le_of_ble_eq_true rfl) dX6_run_84 rfl (fun I1 hq => ?_)
      subst hq
      refine j_aload_n (pc' := 88) dX6_run_87 rfl rfl ?_
      refine j_iconst (pc' := 89) (v := nI 0) dX6_run_88 rfl rfl ?_
      refine j_putI (pc' := 92) f_X6_137 (by assumption) rfl rfl dX6_run_89 rfl ?_
      refine j_eqI mW_0 ?_
      refine j_aload_n (pc' := 93) dX6_run_92 rfl rfl ?_
      refine j_getIv (pc' := 96) f_X6_149 (by assumption) (by first | (simp (disch := omega) only [jx_upS, jx_upK, jx_upA, mI_0, mI_1, mI_2, mI_3, mI_4, mI_5, mI_6, pk_us, pk_un, hD]; rfl) | rfl) dX6_run_93 rfl ?_
      refine j_reti dX6_run_96 rfl (by first | rfl | exact bi_n _) ?_
      have : j = D := by omega
      subst this
      exact ⟨rfl, rfl⟩
    ·
      exact absurd c33 (by omega)
  | succ z ih =>
    intro j v T N y hz hv hNb
    refine j_iload_n (pc' := 29) dX6_run_28 rfl rfl ?_
    refine j_aload_n (pc' := 30) dX6_run_29 rfl rfl ?_
    refine j_getIv (pc' := 33) f_X6_149 (by assumption) (by first | (simp (disch := omega) only [jx_upS, jx_upK, jx_upA, mI_0, mI_1, mI_2, mI_3, mI_4, mI_5, mI_6, pk_us, pk_un, hD]; rfl) | rfl) dX6_run_30 rfl ?_
    first | refine j_icmp_geN' (tgt := 79) (pc' := 36) (by with_reducible rfl) (by with_reducible rfl) (by omega) (by omega) dX6_run_33 rfl (by decide) (fun c33 => ?_) (fun c33 => ?_) | refine j_icmp_ge (tgt := 79) (pc' := 36) dX6_run_33 rfl (by decide) (fun c33 => ?_) (fun c33 => ?_)
    ·
      exact absurd c33 (by omega)
    ·
      refine j_aload_n (pc' := 37) dX6_run_36 rfl rfl ?_
      refine j_iload_n (pc' := 38) dX6_run_37 rfl rfl ?_
      refine j_cVi (pc' := 41) m_X6_168 (c_X6_does hs hv (by omega) (by omega)) (by assumption) (by decide) rfl rfl rfl ⟨Nat.le_of_ble_eq_true rfl, Nat.le_of_ble_eq_true rfl⟩ ⟨Nat.zero_le _, Nat.zero_le _⟩ (Nat.le_of_ble_eq_true rfl) dX6_run_38 rfl (fun x1 I1 hq => ?_)
      obtain ⟨rfl, rfl⟩ := hq
      refine j_istore_n (pc' := 42) (lv' := [_, _, _]) dX6_run_41 rfl (by decide) rfl ?_
      refine j_iload_n (pc' := 43) dX6_run_42 rfl rfl ?_
      refine j_sipush (pc' := 46) (v := -20001) dX6_run_43 rfl rfl ?_
      first | refine j_icmp_eqN' (tgt := 56) (pc' := 49) (by with_reducible rfl) (by with_reducible rfl) (by omega) (by omega) dX6_run_46 rfl (by decide) (fun c46 => ?_) (fun c46 => ?_) | refine j_icmp_eq (tgt := 56) (pc' := 49) dX6_run_46 rfl (by decide) (fun c46 => ?_) (fun c46 => ?_)
      ·
        refine j_aload_n (pc' := 57) dX6_run_56 rfl rfl ?_
        refine j_getR (pc' := 60) f_X6_13 (by assumption) (by assumption) dX6_run_57 rfl ?_
        refine j_aload_n (pc' := 61) dX6_run_60 rfl rfl ?_
        refine j_getR (pc' := 64) f_X6_7 (by assumption) (by assumption) dX6_run_61 rfl ?_
        refine j_cSv (pc' := 67) m_X6_67 (c_X6_copies K2 K1 (by omega)) rfl rfl ⟨Nat.le_of_ble_eq_true rfl, Nat.le_of_ble_eq_true rfl⟩ ⟨Nat.zero_le _, Nat.zero_le _⟩ (Nat.le_of_ble_eq_true rfl) dX6_run_64 rfl (fun I1 hq => ?_)
        subst hq
        rw [cpAV]
        refine j_sipush (pc' := 70) (v := -1000) dX6_run_67 rfl rfl ?_
        refine j_iload_n (pc' := 71) dX6_run_70 rfl rfl ?_
        first | refine j_isubN' (pc' := 72) (by with_reducible rfl) (by with_reducible rfl) (by omega) dX6_run_71 rfl ?_ | refine j_isub (pc' := 72) dX6_run_71 rfl ?_
        refine j_reti dX6_run_72 rfl (by first | rfl | exact bi_n _) ?_
        rw [rnS, if_pos (by rw [dsG_of hv]; exact isE_t (Or.inl c46)), dsG_of hv]
        exact ⟨rfl, rfl⟩
      ·
        refine j_iload_n (pc' := 50) dX6_run_49 rfl rfl ?_
        refine j_sipush (pc' := 53) (v := -20002) dX6_run_50 rfl rfl ?_
        first | refine j_icmp_neN' (tgt := 73) (pc' := 56) (by with_reducible rfl) (by with_reducible rfl) (by omega) (by omega) dX6_run_53 rfl (by decide) (fun c53 => ?_) (fun c53 => ?_) | refine j_icmp_ne (tgt := 73) (pc' := 56) dX6_run_53 rfl (by decide) (fun c53 => ?_) (fun c53 => ?_)
        ·
          first | refine j_iincN (pc' := 76) (lv' := [_, _, _]) dX6_run_73 rfl rfl (by decide) rfl ?_ | refine j_iinc (pc' := 76) (lv' := [_, _, _]) dX6_run_73 rfl rfl rfl (by decide) rfl ?_
          refine j_goto (tgt := 28) dX6_run_76 (by decide) ?_
          obtain ⟨T', N', hN1, hN2, hv'⟩ := hv.does (c := c) (j := j) (by omega)
          rw [rnS, if_neg (by rw [dsG_of hv]; exact isE_n c46 c53), dsG_of hv]
          exact ih (j + 1) _ T' N' (some (.int (dsF v c k T S j).1)) (by omega) hv' (by omega)
        ·
          refine j_aload_n (pc' := 57) dX6_run_56 rfl rfl ?_
          refine j_getR (pc' := 60) f_X6_13 (by assumption) (by assumption) dX6_run_57 rfl ?_
          refine j_aload_n (pc' := 61) dX6_run_60 rfl rfl ?_
          refine j_getR (pc' := 64) f_X6_7 (by assumption) (by assumption) dX6_run_61 rfl ?_
          refine j_cSv (pc' := 67) m_X6_67 (c_X6_copies K2 K1 (by omega)) rfl rfl ⟨Nat.le_of_ble_eq_true rfl, Nat.le_of_ble_eq_true rfl⟩ ⟨Nat.zero_le _, Nat.zero_le _⟩ (Nat.le_of_ble_eq_true rfl) dX6_run_64 rfl (fun I1 hq => ?_)
          subst hq
          rw [cpAV]
          refine j_sipush (pc' := 70) (v := -1000) dX6_run_67 rfl rfl ?_
          refine j_iload_n (pc' := 71) dX6_run_70 rfl rfl ?_
          first | refine j_isubN' (pc' := 72) (by with_reducible rfl) (by with_reducible rfl) (by omega) dX6_run_71 rfl ?_ | refine j_isub (pc' := 72) dX6_run_71 rfl ?_
          refine j_reti dX6_run_72 rfl (by first | rfl | exact bi_n _) ?_
          rw [rnS, if_pos (by rw [dsG_of hv]; exact isE_t (Or.inr c53)), dsG_of hv]
          exact ⟨rfl, rfl⟩
set_option maxRecDepth 100000 in
set_option maxHeartbeats 4000000 in
theorem c_X6_run {E : jx_E} {l : Launch} {n : Nat} {kd : jx_K} {R : jx_R} {I0 : jx_I} {m : Nat} {F v a p o t c : Nat → Int32} {L q k T S N : Nat} (hs : sMd kd R m) (hL : F 7 = nI L) (hL8 : L ≤ 80) (hc : F 3 = nI q) (hc4 : q ≤ 4) (hv : VI v k T S N) (hNb : N + 60000 < 2147483000) : jx_Ci E l yX6_run cX6_run 3 (some .int) 6 n kd R (mI I0 m F v a p o t c) [.ref m] (fun r I' => r = (if (rdS t L 15 0 0 c).1 = true then rnR (rnS ((rdS t L 15 0 0 c).2.2.2) (rdS t L 15 0 0 c).2.2.1 0 v) (rdS t L 15 0 0 c).2.2.1 else -100 - nI (rdS t L 15 0 0 c).2.1) ∧ I' = if (rdS t L 15 0 0 c).1 = true then (match (rnS ((rdS t L 15 0 0 c).2.2.2) (rdS t L 15 0 0 c).2.2.1 0 v).1 with | some _ => mI I0 m (upd (upd F 8 (nI (rdS t L 15 0 0 c).2.1)) 9 (nI (rdS t L 15 0 0 c).2.2.1)) (cpA (cpA v a) (rnS ((rdS t L 15 0 0 c).2.2.2) (rdS t L 15 0 0 c).2.2.1 0 v).2) (cpA v a) p o t ((rdS t L 15 0 0 c).2.2.2) | none => mI I0 m (upd (upd (upd (upd F 8 (nI (rdS t L 15 0 0 c).2.1)) 9 (nI (rdS t L 15 0 0 c).2.2.1)) 3 (nI (kpC q))) 7 (nI 0)) (rnS ((rdS t L 15 0 0 c).2.2.2) (rdS t L 15 0 0 c).2.2.1 0 v).2 (cpA v a) (kpP p q (cpA v a)) o t ((rdS t L 15 0 0 c).2.2.2)) else mI I0 m (upd (upd F 8 (nI (rdS t L 15 0 0 c).2.1)) 9 (nI (rdS t L 15 0 0 c).2.2.1)) v a p o t ((rdS t L 15 0 0 c).2.2.2)) := by
  obtain ⟨K0, K1, K2, K3, K4, K5, K6, R0, R1, R2, R4, R6, R10⟩ := id hs
  refine jx_C0.ofJ RX6 [some (.ref m), none, none] (by decide) rfl rfl (Nat.le_of_ble_eq_true rfl) rfl ?_
  refine j_aload_n (pc' := 1) dX6_run_0 rfl rfl ?_
  refine j_cVi (pc' := 4) m_X6_165 (c_X6_reads hs hL hL8) (by assumption) (by decide) rfl rfl rfl ⟨Nat.le_of_ble_eq_true rfl, Nat.le_of_ble_eq_true rfl⟩ ⟨Nat.zero_le _, Nat.zero_le _⟩ (Nat.le_of_ble_eq_true rfl) dX6_run_1 rfl (fun x1 I1 hq => ?_)
  obtain ⟨rfl, rfl⟩ := hq
  first | refine j_if_neB' (tgt := 15) (pc' := 7) (by with_reducible rfl) dX6_run_4 rfl (by decide) (fun c4 => ?_) (fun c4 => ?_) | refine j_if_neN' (tgt := 15) (pc' := 7) (by with_reducible rfl) (by omega) dX6_run_4 rfl (by decide) (fun c4 => ?_) (fun c4 => ?_) | refine j_if_ne (tgt := 15) (pc' := 7) dX6_run_4 rfl (by decide) (fun c4 => ?_) (fun c4 => ?_)
  ·
    refine j_aload_n (pc' := 16) dX6_run_15 rfl rfl ?_
    refine j_getR (pc' := 19) f_X6_7 (by assumption) (by assumption) dX6_run_16 rfl ?_
    refine j_aload_n (pc' := 20) dX6_run_19 rfl rfl ?_
    refine j_getR (pc' := 23) f_X6_13 (by assumption) (by assumption) dX6_run_20 rfl ?_
    refine j_cSv (pc' := 26) m_X6_67 (c_X6_copies K1 K2 (by omega)) rfl rfl ⟨Nat.le_of_ble_eq_true rfl, Nat.le_of_ble_eq_true rfl⟩ ⟨Nat.zero_le _, Nat.zero_le _⟩ (Nat.le_of_ble_eq_true rfl) dX6_run_23 rfl (fun I1 hq => ?_)
    subst hq
    rw [cpVA]
    refine j_iconst (pc' := 27) (v := nI 0) dX6_run_26 rfl rfl ?_
    refine j_istore_n (pc' := 28) (lv' := [_, _, _]) dX6_run_27 rfl (by decide) rfl ?_
    have hok := rdS_ok (t := t) hL8 15 0 0 c (Nat.zero_le _) (Nat.zero_le _)
    have h := lp_X6_run (v := v) (E := E) (l := l) (n := n) (I0 := I0) (a := cpA v a) (p := p) (o := o) (t := t) (c := (rdS t L 15 0 0 c).2.2.2) (F := (upd (upd F 8 (nI (rdS t L 15 0 0 c).2.1)) 9 (nI (rdS t L 15 0 0 c).2.2.1))) (k := k) (S := S) hs pk_us hok.2 ((pk_un (by decide)).trans ((pk_un (by decide)).trans hc)) hc4 (rdS t L 15 0 0 c).2.2.1 0 v T N none rfl hv (by omega)
    simp only [if_pos c4]
    exact h
  ·
    refine j_bipush (pc' := 9) (v := -100) dX6_run_7 rfl rfl ?_
    refine j_aload_n (pc' := 10) dX6_run_9 rfl rfl ?_
    refine j_getIv (pc' := 13) f_X6_140 (by assumption) (by first | (simp (disch := omega) only [jx_upS, jx_upK, jx_upA, mI_0, mI_1, mI_2, mI_3, mI_4, mI_5, mI_6, pk_us, pk_un]; rfl) | rfl) dX6_run_10 rfl ?_
    refine j_isub (pc' := 14) dX6_run_13 rfl ?_
    refine j_reti dX6_run_14 rfl (by first | rfl | exact bi_n _) ?_
    rw [if_neg (by rw [c4]; decide), if_neg (by rw [c4]; decide)]
    exact ⟨rfl, rfl⟩

