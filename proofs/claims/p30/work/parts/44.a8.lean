theorem plF_sm {v : Nat → Int32} {i of od b d d' : Nat} (hof : v (176 + 56 * i + 4) = nI of) (hod : v (176 + 56 * i + 3) = nI od) (h1 : of ≤ 20) (h2 : od ≤ 20) (hL : okV (v (176 + 56 * i + 1)) = true) (hd : d ≤ d') (hd' : d' ≤ 1000) : ∀ j, j ≤ 40 → ∃ t c on t' c' on', plF v i (nI d) b j = (nI t, nI c, on) ∧ plF v i (nI d') b j = (nI t', nI c', on') ∧ smR t c on t' c' on' j := by
  intro j
  induction j with
  | zero => intro _; exact ⟨0, 0, false, 0, 0, false, rfl, rfl, ⟨by omega, by omega, by omega, by omega, Or.inl ⟨rfl, by omega, fun _ => rfl⟩⟩⟩
  | succ j ih =>
    intro hj
    obtain ⟨t, c, on, t', c', on', e, e', hR⟩ := ih (by omega)
    have hc : c ≤ j := hR.2.2.1
    have hc' : c' ≤ j := hR.2.2.2.1
    refine ⟨_, _, _, _, _, _, ?_, ?_, smR_s (of := of) (od := od) (cl := sCl (v (176 + 56 * i + 0)) (v (176 + 56 * i + 1)) (nI d) (v (176 + 56 * i + (16 + (b + j) % 40)))) (cl' := sCl (v (176 + 56 * i + 0)) (v (176 + 56 * i + 1)) (nI d') (v (176 + 56 * i + (16 + (b + j) % 40)))) (ov := sOv (v (176 + 56 * i + 0)) (v (176 + 56 * i + 1)) (v (176 + 56 * i + (16 + (b + j) % 40)))) hR (fun z => (sCl_m hL hd hd' z).1) (fun z => (sCl_m hL hd hd' z).2)⟩
    · rw [plF, e]
      exact plS_n hof hod h1 h2 (by omega)
    · rw [plF, e']
      exact plS_n hof hod h1 h2 (by omega)
theorem plays_m {v : Nat → Int32} {k T S N i d d' K : Nat} (hv : VI v k T S N) (hi : i < k) (hd : d ≤ d') (hd' : d' ≤ 1000) : ∃ t t', plays v i (nI d) K = nI t ∧ plays v i (nI d') K = nI t' ∧ t' ≤ t ∧ t ≤ 40 := by
  obtain ⟨of, _, h1, hof⟩ := in_nat (show decide (nI 0 ≤ v (176 + 56 * i + 4) ∧ v (176 + 56 * i + 4) ≤ nI 20) = true from hv.st hi (w := 4) (by omega)) (by decide) (by decide)
  obtain ⟨od, _, h2, hod⟩ := in_nat (show decide (nI 0 ≤ v (176 + 56 * i + 3) ∧ v (176 + 56 * i + 3) ≤ nI 20) = true from hv.st hi (w := 3) (by omega)) (by decide) (by decide)
  have hL : okV (v (176 + 56 * i + 1)) = true := hv.st hi (w := 1) (by omega)
  have hn : (if K < 40 then K else 40) ≤ 40 := by split <;> omega
  obtain ⟨t, c, on, t', c', on', e, e', hR⟩ := plF_sm (b := K - (if K < 40 then K else 40)) hof hod h1 h2 hL hd hd' _ hn
  refine ⟨t, t', by rw [plays, e], by rw [plays, e'], hR.1, Nat.le_trans hR.2.1 hn⟩
theorem plays_mI {v : Nat → Int32} {k T S N i d d' K : Nat} {y : Int32} (hv : VI v k T S N) (hi : i < k) (hd : d ≤ d') (hd' : d' ≤ 1000) (h : plays v i (nI d) K ≤ y) : plays v i (nI d') K ≤ y := by
  obtain ⟨t, t', e, e', h1, h2⟩ := plays_m (K := K) hv hi hd hd'
  rw [e] at h
  rw [e']
  exact Int32.le_trans (nI_le h1 (by omega)) h
theorem ldF_hit {f : Nat → Int32} {y : Int32} {e : Nat} : ∀ z d, d ≤ e → e < d + z → (∀ q, d ≤ q → q < e → ¬ f q ≤ y) → f e ≤ y → ldF f y z d = nI e := by
  intro z
  induction z with
  | zero => intro d h1 h2; omega
  | succ z ih =>
    intro d h1 h2 h3 h4
    rw [ldF]
    by_cases h : d = e
    · subst h; rw [if_pos h4]
    · rw [if_neg (h3 d (by omega) (by omega))]
      exact ih (d + 1) (by omega) (by omega) (fun q a b => h3 q (by omega) b) h4
theorem ldF_no {f : Nat → Int32} {y : Int32} : ∀ z d, (∀ q, d ≤ q → q < d + z → ¬ f q ≤ y) → ldF f y z d = -20009 := by
  intro z
  induction z with
  | zero => intro d _; rfl
  | succ z ih =>
    intro d h
    rw [ldF, if_neg (h d (by omega) (by omega))]
    exact ih (d + 1) (fun q a b => h q (by omega) (by omega))

set_option maxRecDepth 100000 in
set_option maxHeartbeats 4000000 in
theorem lp_X2_least {E : jx_E} {l : Launch} {n : Nat} {kd : jx_K} {R : jx_R} {I : jx_I} {p : Nat} {v : Nat → Int32} {i : Nat} (hp : sPt kd R p) (h : aPt I p v i) {k T S N K : Nat} {y : Int32} (hv : VI v k T S N) (hi : i < k) (hK : v (176 + 56 * i + 15) = nI K) (hK1 : K ≤ 50000) : ∀ (z le en st : Nat) (u1 : Option Value), z + st = 1001 → (en - le) + st ≤ 1000 → le ≤ en → en ≤ 1000 → (∀ q, q < le → ¬ plays v i (nI q) K ≤ y) → plays v i (nI en) K ≤ y → jx_J E l cX2_leastDeadbandFor 6 (some .int) RX2 false (jx_rm 3) 0 0 (jx_Q0 n kd R (jx_Pi (fun r I' => r = ldF (fun d => plays v i (nI d) K) y 1001 0 ∧ I' = I))) 0 0 n kd R (I) 24 [some (.ref p), some (.int y), some (.int (nI le)), some (.int (nI en)), some (.int (nI st)), u1] [] := by
  obtain ⟨K0, K1, K2, R0, R1⟩ := id hp
  obtain ⟨hst, h15, h7, h8, h9, h10, h11, h12, h13, h14, hvl⟩ := id h
  have s0 := hst 0 (by decide)
  have s1 := hst 1 (by decide)
  have s2 := hst 2 (by decide)
  have s3 := hst 3 (by decide)
  have s4 := hst 4 (by decide)
  have s5 := hst 5 (by decide)
  have s6 := hst 6 (by decide)
  intro z
  induction z with
  | zero => intro le en st u1 hz; omega
  | succ z ih =>
    intro le en st u1 hz hst hle hen1 hlo hen
    refine j_iload (pc' := 26) dX2_leastDeadbandFor_24 rfl rfl ?_
    refine j_sipush (pc' := 29) (v := nI 1000) dX2_leastDeadbandFor_26 rfl rfl ?_
    first | refine j_icmp_geN' (tgt := 71) (pc' := 32) (by with_reducible rfl) (by with_reducible rfl) (by omega) (by omega) dX2_leastDeadbandFor_29 rfl (by decide) (fun c29 => ?_) (fun c29 => ?_) | refine j_icmp_ge (tgt := 71) (pc' := 32) dX2_leastDeadbandFor_29 rfl (by decide) (fun c29 => ?_) (fun c29 => ?_)
    ·
      refine j_iload_n (pc' := 72) dX2_leastDeadbandFor_71 rfl rfl ?_
      refine j_reti dX2_leastDeadbandFor_72 rfl (by first | rfl | exact bi_n _) ?_
      have e : le = en := by omega
      subst e
      exact ⟨(ldF_hit 1001 0 (by omega) (by omega) (fun q _ b => hlo q (by omega)) hen).symm, rfl⟩
    ·
      refine j_iload_n (pc' := 33) dX2_leastDeadbandFor_32 rfl rfl ?_
      refine j_iload_n (pc' := 34) dX2_leastDeadbandFor_33 rfl rfl ?_
      first | refine j_icmp_geN' (tgt := 71) (pc' := 37) (by with_reducible rfl) (by with_reducible rfl) (by omega) (by omega) dX2_leastDeadbandFor_34 rfl (by decide) (fun c34 => ?_) (fun c34 => ?_) | refine j_icmp_ge (tgt := 71) (pc' := 37) dX2_leastDeadbandFor_34 rfl (by decide) (fun c34 => ?_) (fun c34 => ?_)
      ·
        refine j_iload_n (pc' := 72) dX2_leastDeadbandFor_71 rfl rfl ?_
        refine j_reti dX2_leastDeadbandFor_72 rfl (by first | rfl | exact bi_n _) ?_
        have e : le = en := by omega
        subst e
        exact ⟨(ldF_hit 1001 0 (by omega) (by omega) (fun q _ b => hlo q (by omega)) hen).symm, rfl⟩
      ·
        refine j_iload_n (pc' := 38) dX2_leastDeadbandFor_37 rfl rfl ?_
        refine j_iload_n (pc' := 39) dX2_leastDeadbandFor_38 rfl rfl ?_
        first | refine j_iaddN' (pc' := 40) (by with_reducible rfl) (by with_reducible rfl) dX2_leastDeadbandFor_39 rfl ?_ | refine j_iadd (pc' := 40) dX2_leastDeadbandFor_39 rfl ?_
        refine j_iconst (pc' := 41) (v := nI 2) dX2_leastDeadbandFor_40 rfl rfl ?_
        refine j_idivN' (pc' := 42) (by with_reducible rfl) (by with_reducible rfl) (by omega) (by omega) (by omega) dX2_leastDeadbandFor_41 rfl ?_
        refine j_istore (pc' := 44) (lv' := [_, _, _, _, _, _]) dX2_leastDeadbandFor_42 rfl (by decide) rfl ?_
        refine j_aload_n (pc' := 45) dX2_leastDeadbandFor_44 rfl rfl ?_
        refine j_iload (pc' := 47) dX2_leastDeadbandFor_45 rfl rfl ?_
        refine j_cVi (pc' := 50) m_X2_69 (c_X2_alarmsWith hp h hK hK1) (by assumption) (by decide) rfl rfl rfl ⟨Nat.le_of_ble_eq_true rfl, Nat.le_of_ble_eq_true rfl⟩ ⟨Nat.zero_le _, Nat.zero_le _⟩ (Nat.le_of_ble_eq_true rfl) dX2_leastDeadbandFor_47 rfl (fun x1 I1 hq => ?_)
        obtain ⟨rfl, rfl⟩ := hq
        refine j_iload_n (pc' := 51) dX2_leastDeadbandFor_50 rfl rfl ?_
        first | refine j_icmp_leN' (tgt := 62) (pc' := 54) (by with_reducible rfl) (by with_reducible rfl) (by omega) (by omega) dX2_leastDeadbandFor_51 rfl (by decide) (fun c51 => ?_) (fun c51 => ?_) | refine j_icmp_le (tgt := 62) (pc' := 54) dX2_leastDeadbandFor_51 rfl (by decide) (fun c51 => ?_) (fun c51 => ?_)
        ·
          refine j_iload (pc' := 64) dX2_leastDeadbandFor_62 rfl rfl ?_
          refine j_istore_n (pc' := 65) (lv' := [_, _, _, _, _, _]) dX2_leastDeadbandFor_64 rfl (by decide) rfl ?_
          first | refine j_iincN (pc' := 68) (lv' := [_, _, _, _, _, _]) dX2_leastDeadbandFor_65 rfl rfl (by decide) rfl ?_ | refine j_iinc (pc' := 68) (lv' := [_, _, _, _, _, _]) dX2_leastDeadbandFor_65 rfl rfl rfl (by decide) rfl ?_
          refine j_goto (tgt := 24) dX2_leastDeadbandFor_68 (by decide) ?_
          exact ih le ((le + en) / 2) (st + 1) _ (by omega) (by omega) (by omega) (by omega) hlo c51
        ·
          skip
          refine j_iload (pc' := 56) dX2_leastDeadbandFor_54 rfl rfl ?_
          refine j_iconst (pc' := 57) (v := nI 1) dX2_leastDeadbandFor_56 rfl rfl ?_
          first | refine j_iaddN' (pc' := 58) (by with_reducible rfl) (by with_reducible rfl) dX2_leastDeadbandFor_57 rfl ?_ | refine j_iadd (pc' := 58) dX2_leastDeadbandFor_57 rfl ?_
          refine j_istore_n (pc' := 59) (lv' := [_, _, _, _, _, _]) dX2_leastDeadbandFor_58 rfl (by decide) rfl ?_
          refine j_goto (tgt := 65) dX2_leastDeadbandFor_59 (by decide) ?_
          first | refine j_iincN (pc' := 68) (lv' := [_, _, _, _, _, _]) dX2_leastDeadbandFor_65 rfl rfl (by decide) rfl ?_ | refine j_iinc (pc' := 68) (lv' := [_, _, _, _, _, _]) dX2_leastDeadbandFor_65 rfl rfl rfl (by decide) rfl ?_
          refine j_goto (tgt := 24) dX2_leastDeadbandFor_68 (by decide) ?_
          exact ih ((le + en) / 2 + 1) en (st + 1) _ (by omega) (by omega) (by omega) hen1 (fun q hq z => c51 (plays_mI hv hi (show q ≤ (le + en) / 2 from by omega) (by omega) z)) hen
set_option maxRecDepth 100000 in
set_option maxHeartbeats 4000000 in
theorem c_X2_leastDeadbandFor {E : jx_E} {l : Launch} {n : Nat} {kd : jx_K} {R : jx_R} {I : jx_I} {p : Nat} {v : Nat → Int32} {i : Nat} (hp : sPt kd R p) (h : aPt I p v i) {k T S N K : Nat} {y : Int32} (hv : VI v k T S N) (hi : i < k) (hK : v (176 + 56 * i + 15) = nI K) (hK1 : K ≤ 50000) : jx_Ci E l yX2_leastDeadbandFor cX2_leastDeadbandFor 6 (some .int) 3 n kd R (I) [.ref p, .int y] (fun r I' => r = (ldF (fun d => plays v i (nI d) K) y 1001 0) ∧ I' = I) := by
  obtain ⟨K0, K1, K2, R0, R1⟩ := id hp
  obtain ⟨hst, h15, h7, h8, h9, h10, h11, h12, h13, h14, hvl⟩ := id h
  have s0 := hst 0 (by decide)
  have s1 := hst 1 (by decide)
  have s2 := hst 2 (by decide)
  have s3 := hst 3 (by decide)
  have s4 := hst 4 (by decide)
  have s5 := hst 5 (by decide)
  have s6 := hst 6 (by decide)
  refine jx_C0.ofJ RX2 [some (.ref p), some (.int y), none, none, none, none] (by decide) rfl rfl (Nat.le_of_ble_eq_true rfl) rfl ?_
  refine j_aload_n (pc' := 1) dX2_leastDeadbandFor_0 rfl rfl ?_
  refine j_sipush (pc' := 4) (v := nI 1000) dX2_leastDeadbandFor_1 rfl rfl ?_
  refine j_cVi (pc' := 7) m_X2_69 (c_X2_alarmsWith hp h hK hK1) (by assumption) (by decide) rfl rfl rfl ⟨Nat.le_of_ble_eq_true rfl, Nat.le_of_ble_eq_true rfl⟩ ⟨Nat.zero_le _, Nat.zero_le _⟩ (Nat.le_of_ble_eq_true rfl) dX2_leastDeadbandFor_4 rfl (fun x1 I1 hq => ?_)
  obtain ⟨rfl, rfl⟩ := hq
  refine j_iload_n (pc' := 8) dX2_leastDeadbandFor_7 rfl rfl ?_
  first | refine j_icmp_leN' (tgt := 15) (pc' := 11) (by with_reducible rfl) (by with_reducible rfl) (by omega) (by omega) dX2_leastDeadbandFor_8 rfl (by decide) (fun c8 => ?_) (fun c8 => ?_) | refine j_icmp_le (tgt := 15) (pc' := 11) dX2_leastDeadbandFor_8 rfl (by decide) (fun c8 => ?_) (fun c8 => ?_)
  ·
    refine j_iconst (pc' := 16) (v := nI 0) dX2_leastDeadbandFor_15 rfl rfl ?_
    refine j_istore_n (pc' := 17) (lv' := [_, _, _, _, _, _]) dX2_leastDeadbandFor_16 rfl (by decide) rfl ?_
    refine j_sipush (pc' := 20) (v := nI 1000) dX2_leastDeadbandFor_17 rfl rfl ?_
    refine j_istore_n (pc' := 21) (lv' := [_, _, _, _, _, _]) dX2_leastDeadbandFor_20 rfl (by decide) rfl ?_
    refine j_iconst (pc' := 22) (v := nI 0) dX2_leastDeadbandFor_21 rfl rfl ?_
    refine j_istore (pc' := 24) (lv' := [_, _, _, _, _, _]) dX2_leastDeadbandFor_22 rfl (by decide) rfl ?_
    exact lp_X2_least hp h hv hi hK hK1 1001 0 1000 0 none (by omega) (by omega) (by omega) (by omega) (fun q hq => absurd hq (by omega)) c8
  ·
    refine j_sipush (pc' := 14) (v := -20009) dX2_leastDeadbandFor_11 rfl rfl ?_
    refine j_reti dX2_leastDeadbandFor_14 rfl (by first | rfl | exact bi_n _) ?_
    exact ⟨(ldF_no 1001 0 (fun q _ hq z => c8 (plays_mI hv hi (show q ≤ 1000 from by omega) (by omega) z))).symm, rfl⟩

