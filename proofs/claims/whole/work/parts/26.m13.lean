theorem fAck_lo {v : Nat → Int32} {x : Int32} {j : Nat} (h : j < 9) : (fAck v x).2 j = v j := by
  unfold fAck
  split
  · split
    · rfl
    · dsimp only
      rw [sHap_o (by omega), pk_un (by omega), pk_un (by omega), pk_un (by omega)]
  · rfl
theorem fAck_9 {v : Nat → Int32} {x : Int32} {N : Nat} (hN : v 9 = nI N) (hb : N < 2147483000) : ∃ N', N ≤ N' ∧ N' ≤ N + 1 ∧ (fAck v x).2 9 = nI N' := by
  unfold fAck
  split
  · split
    · exact ⟨N, Nat.le_refl _, by omega, hN⟩
    · refine ⟨N + 1, by omega, by omega, ?_⟩
      dsimp only
      exact sHap_9 (by rw [pk_un (by omega), pk_un (by omega), pk_un (by omega), hN]) hb
  · exact ⟨N, Nat.le_refl _, by omega, hN⟩
def aaF (v o : Nat → Int32) : Nat → (Nat → Int32) × Nat
  | 0 => (v, 0)
  | j + 1 => if (aaF v o j).1 (176 + 56 * (o j).toNatClampNeg + 10) = 0 then ((fAck (aaF v o j).1 (o j)).2, (aaF v o j).2 + 1) else aaF v o j
theorem aaF_lo {v o : Nat → Int32} {j : Nat} (h : j < 9) : ∀ i, (aaF v o i).1 j = v j := by
  intro i
  induction i with
  | zero => rfl
  | succ i ih =>
    rw [aaF]
    split
    · exact (fAck_lo h).trans ih
    · exact ih
theorem aaF_9 {v o : Nat → Int32} {N : Nat} (hN : v 9 = nI N) (hb : N + 100 < 2147483000) : ∀ i, i ≤ 16 → ∃ N', N ≤ N' ∧ N' ≤ N + i ∧ (aaF v o i).1 9 = nI N' := by
  intro i
  induction i with
  | zero => intro _; exact ⟨N, Nat.le_refl _, by omega, hN⟩
  | succ i ih =>
    intro hi
    obtain ⟨N1, h1, h2, h3⟩ := ih (by omega)
    rw [aaF]
    split
    · obtain ⟨N2, h4, h5, h6⟩ := fAck_9 (x := o i) h3 (by omega)
      exact ⟨N2, by omega, by omega, h6⟩
    · exact ⟨N1, h1, by omega, h3⟩

set_option maxRecDepth 100000 in
set_option maxHeartbeats 4000000 in
theorem lp_X6_ackAll {E : jx_E} {l : Launch} {n : Nat} {kd : jx_K} {R : jx_R} {I0 : jx_I} {m : Nat} {F v a p o t c : Nat → Int32} (hs : sMd kd R m) {k N L : Nat} (h16 : k ≤ 16) (hk : v 0 = nI k) (hN : v 9 = nI N) (hNb : N + 100 < 2147483000) (hL : L ≤ 16) (hF : F 5 = nI L) (ho : okO o L k) : ∀ (z j : Nat), j ≤ L → z + j = L + 1 → ∀ u : Option Value, jx_J E l cX6_ackAll 4 (some .int) RX6 false (jx_rm 4) 0 0 (jx_Q0 n kd R (jx_Pi (fun r I' => r = nI (aaF v o L).2 ∧ I' = mI I0 m F ((aaF v o L).1) a p o t c))) 0 0 n kd R (mI I0 m F ((aaF v o j).1) a p o t c) 16 [some (.ref m), some (.int (nI (aaF v o j).2)), some (.int (nI j)), u] [] := by
  obtain ⟨K0, K1, K2, K3, K4, K5, K6, R0, R1, R2, R4, R6, R10⟩ := id hs
  intro z
  induction z with
  | zero => intro j hj hz; omega
  | succ z ih =>
    intro j hj hz u
    have hu0 : (aaF v o j).1 0 = nI k := by rw [aaF_lo (by omega), hk]
    obtain ⟨N', hN1, hN2, hu9⟩ := aaF_9 (o := o) hN (by omega) j (by omega)
    rcases Nat.lt_or_ge j L with hjL | hjL
    · obtain ⟨qq, hqq, hoj⟩ := ho j hjL
      refine j_iload_n (pc' := 17) dX6_ackAll_16 rfl rfl ?_
      refine j_aload_n (pc' := 18) dX6_ackAll_17 rfl rfl ?_
      refine j_getIv (pc' := 21) f_X6_116 (by assumption) (by first | (simp (disch := omega) only [jx_upS, jx_upK, jx_upA, mI_0, mI_1, mI_2, mI_3, mI_4, mI_5, mI_6, pk_us, pk_un, hF, hoj]; rfl) | rfl) dX6_ackAll_18 rfl ?_
      first | refine j_icmp_geN' (tgt := 59) (pc' := 24) (by with_reducible rfl) (by with_reducible rfl) (by omega) (by omega) dX6_ackAll_21 rfl (by decide) (fun c21 => ?_) (fun c21 => ?_) | refine j_icmp_ge (tgt := 59) (pc' := 24) dX6_ackAll_21 rfl (by decide) (fun c21 => ?_) (fun c21 => ?_)
      ·
        refine j_iload_n (pc' := 60) dX6_ackAll_59 rfl rfl ?_
        refine j_reti dX6_ackAll_60 rfl (by first | rfl | exact bi_n _) ?_
        have : j = L := by omega
        subst this
        exact ⟨rfl, rfl⟩
      ·
        refine j_aload_n (pc' := 25) dX6_ackAll_24 rfl rfl ?_
        refine j_aload_n (pc' := 26) dX6_ackAll_25 rfl rfl ?_
        refine j_getR (pc' := 29) f_X6_19 (by assumption) (by assumption) dX6_ackAll_26 rfl ?_
        refine j_iload_n (pc' := 30) dX6_ackAll_29 rfl rfl ?_
        refine j_ialdv (pc' := 31) (by assumption) rfl (by omega) (by omega) (by first | (simp (disch := omega) only [jx_upS, jx_upK, jx_upA, mI_0, mI_1, mI_2, mI_3, mI_4, mI_5, mI_6, pk_us, pk_un, hF, hoj]; rfl) | rfl) dX6_ackAll_30 rfl ?_
        refine j_bipush (pc' := 33) (v := nI 10) dX6_ackAll_31 rfl rfl ?_
        refine j_cVi (pc' := 36) m_X6_59 (c_X6_ofv hs (by omega) (by omega) rfl) (by assumption) (by decide) rfl rfl rfl ⟨Nat.le_of_ble_eq_true rfl, Nat.le_of_ble_eq_true rfl⟩ ⟨Nat.zero_le _, Nat.zero_le _⟩ (Nat.le_of_ble_eq_true rfl) dX6_ackAll_33 rfl (fun x1 I1 hq => ?_)
        obtain ⟨rfl, rfl⟩ := hq
        first | refine j_if_neB' (tgt := 53) (pc' := 39) (by with_reducible rfl) dX6_ackAll_36 rfl (by decide) (fun c36 => ?_) (fun c36 => ?_) | refine j_if_neN' (tgt := 53) (pc' := 39) (by with_reducible rfl) (by omega) dX6_ackAll_36 rfl (by decide) (fun c36 => ?_) (fun c36 => ?_) | refine j_if_ne (tgt := 53) (pc' := 39) dX6_ackAll_36 rfl (by decide) (fun c36 => ?_) (fun c36 => ?_)
        ·
          have e : aaF v o (j + 1) = aaF v o j := by rw [aaF, hoj, nI_clamp (by omega), if_neg c36]
          first | refine j_iincN (pc' := 56) (lv' := [_, _, _, _]) dX6_ackAll_53 rfl rfl (by decide) rfl ?_ | refine j_iinc (pc' := 56) (lv' := [_, _, _, _]) dX6_ackAll_53 rfl rfl rfl (by decide) rfl ?_
          refine j_goto (tgt := 16) dX6_ackAll_56 (by decide) ?_
          have h := ih (j + 1) (by omega) (by omega)
          rw [e] at h
          exact h _
        ·
          have e : aaF v o (j + 1) = ((fAck (aaF v o j).1 (nI qq)).2, (aaF v o j).2 + 1) := by rw [aaF, hoj, nI_clamp (by omega), if_pos c36]
          refine j_aload_n (pc' := 40) dX6_ackAll_39 rfl rfl ?_
          refine j_aload_n (pc' := 41) dX6_ackAll_40 rfl rfl ?_
          refine j_getR (pc' := 44) f_X6_19 (by assumption) (by assumption) dX6_ackAll_41 rfl ?_
          refine j_iload_n (pc' := 45) dX6_ackAll_44 rfl rfl ?_
          refine j_ialdv (pc' := 46) (by assumption) rfl (by omega) (by omega) (by first | (simp (disch := omega) only [jx_upS, jx_upK, jx_upA, mI_0, mI_1, mI_2, mI_3, mI_4, mI_5, mI_6, pk_us, pk_un, hF, hoj]; rfl) | rfl) dX6_ackAll_45 rfl ?_
          refine j_cVi (pc' := 49) m_X6_113 (c_X6_fAck hs hu0 h16 hu9 (by omega)) (by assumption) (by decide) rfl rfl rfl ⟨Nat.le_of_ble_eq_true rfl, Nat.le_of_ble_eq_true rfl⟩ ⟨Nat.zero_le _, Nat.zero_le _⟩ (Nat.le_of_ble_eq_true rfl) dX6_ackAll_46 rfl (fun x1 I1 hq => ?_)
          obtain ⟨rfl, rfl⟩ := hq
          refine j_istore_n (pc' := 50) (lv' := [_, _, _, _]) dX6_ackAll_49 rfl (by decide) rfl ?_
          first | refine j_iincN (pc' := 53) (lv' := [_, _, _, _]) dX6_ackAll_50 rfl rfl (by decide) rfl ?_ | refine j_iinc (pc' := 53) (lv' := [_, _, _, _]) dX6_ackAll_50 rfl rfl rfl (by decide) rfl ?_
          first | refine j_iincN (pc' := 56) (lv' := [_, _, _, _]) dX6_ackAll_53 rfl rfl (by decide) rfl ?_ | refine j_iinc (pc' := 56) (lv' := [_, _, _, _]) dX6_ackAll_53 rfl rfl rfl (by decide) rfl ?_
          refine j_goto (tgt := 16) dX6_ackAll_56 (by decide) ?_
          have h := ih (j + 1) (by omega) (by omega)
          rw [e] at h
          exact h _
    · skip
      refine j_iload_n (pc' := 17) dX6_ackAll_16 rfl rfl ?_
      refine j_aload_n (pc' := 18) dX6_ackAll_17 rfl rfl ?_
      refine j_getIv (pc' := 21) f_X6_116 (by assumption) (by first | (simp (disch := omega) only [jx_upS, jx_upK, jx_upA, mI_0, mI_1, mI_2, mI_3, mI_4, mI_5, mI_6, pk_us, pk_un, hF]; rfl) | rfl) dX6_ackAll_18 rfl ?_
      first | refine j_icmp_geN' (tgt := 59) (pc' := 24) (by with_reducible rfl) (by with_reducible rfl) (by omega) (by omega) dX6_ackAll_21 rfl (by decide) (fun c21 => ?_) (fun c21 => ?_) | refine j_icmp_ge (tgt := 59) (pc' := 24) dX6_ackAll_21 rfl (by decide) (fun c21 => ?_) (fun c21 => ?_)
      ·
        refine j_iload_n (pc' := 60) dX6_ackAll_59 rfl rfl ?_
        refine j_reti dX6_ackAll_60 rfl (by first | rfl | exact bi_n _) ?_
        have : j = L := by omega
        subst this
        exact ⟨rfl, rfl⟩
      ·
        exact absurd c21 (by omega)
set_option maxRecDepth 100000 in
set_option maxHeartbeats 4000000 in
theorem c_X6_ackAll {E : jx_E} {l : Launch} {n : Nat} {kd : jx_K} {R : jx_R} {I0 : jx_I} {m : Nat} {F v a p o t c : Nat → Int32} {k N q : Nat} {rk : Nat → Nat} (hs : sMd kd R m) (hk : v 0 = nI k) (h16 : k ≤ 16) (hrk : RK v k rk) (hN : v 9 = nI N) (hNb : N + 100 < 2147483000) (hc : F 3 = nI q) (hc4 : q ≤ 4) : jx_Ci E l yX6_ackAll cX6_ackAll 4 (some .int) 4 n kd R (mI I0 m F v a p o t c) [.ref m] (fun r I' => r = nI (aaF v (lsF v o k).1 (lsF v o k).2).2 ∧ I' = mI I0 m (upd (upd F 3 (nI (kpC q))) 5 (nI (lsF v o k).2)) ((aaF v (lsF v o k).1 (lsF v o k).2).1) a (kpP p q v) ((lsF v o k).1) t c) := by
  obtain ⟨K0, K1, K2, K3, K4, K5, K6, R0, R1, R2, R4, R6, R10⟩ := id hs
  refine jx_C0.ofJ RX6 [some (.ref m), none, none, none] (by decide) rfl rfl (Nat.le_of_ble_eq_true rfl) rfl ?_
  refine j_aload_n (pc' := 1) dX6_ackAll_0 rfl rfl ?_
  refine j_aload_n (pc' := 2) dX6_ackAll_1 rfl rfl ?_
  refine j_getR (pc' := 5) f_X6_7 (by assumption) (by assumption) dX6_ackAll_2 rfl ?_
  refine j_cVv (pc' := 8) m_X6_40 (c_X6_keeps (row := v) hs K1 (fun _ _ => mI_1) hc hc4) (by assumption) (by decide) rfl rfl rfl ⟨Nat.le_of_ble_eq_true rfl, Nat.le_of_ble_eq_true rfl⟩ ⟨Nat.zero_le _, Nat.zero_le _⟩ (Nat.le_of_ble_eq_true rfl) dX6_ackAll_5 rfl (fun I1 hq => ?_)
  subst hq
  refine j_aload_n (pc' := 9) dX6_ackAll_8 rfl rfl ?_
  refine j_cVv (pc' := 12) m_X6_122 (c_X6_lists hs hk h16 hrk) (by assumption) (by decide) rfl rfl rfl ⟨Nat.le_of_ble_eq_true rfl, Nat.le_of_ble_eq_true rfl⟩ ⟨Nat.zero_le _, Nat.zero_le _⟩ (Nat.le_of_ble_eq_true rfl) dX6_ackAll_9 rfl (fun I1 hq => ?_)
  subst hq
  refine j_iconst (pc' := 13) (v := nI 0) dX6_ackAll_12 rfl rfl ?_
  refine j_istore_n (pc' := 14) (lv' := [_, _, _, _]) dX6_ackAll_13 rfl (by decide) rfl ?_
  refine j_iconst (pc' := 15) (v := nI 0) dX6_ackAll_14 rfl rfl ?_
  refine j_istore_n (pc' := 16) (lv' := [_, _, _, _]) dX6_ackAll_15 rfl (by decide) rfl ?_
  have hls := lsF_ok (v := v) (o := o) k
  have h := lp_X6_ackAll (E := E) (l := l) (n := n) (I0 := I0) (a := a) (p := kpP p q v) (t := t) (c := c) (F := upd (upd F 3 (nI (kpC q))) 5 (nI (lsF v o k).2)) hs h16 hk hN hNb (by omega) pk_us hls.2 ((lsF v o k).2 + 1) 0 (by omega) (by omega)
  exact h none

