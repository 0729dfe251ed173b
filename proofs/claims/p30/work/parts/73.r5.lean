theorem p_ackAllG {E : jx_E} {l : Launch} {n : Nat} {kd : jx_K} {R : jx_R} {I : jx_I} {d : Nat} {v p : Nat → Int32} {q B k T S N : Nat} (hD : DK kd R I d v p q B) (hV : VI v k T S N) (hN : N ≤ B) (hB : B + 70000 < 2147483000) : jx_CiR E l yX5_ackAll cX5_ackAll 4 (some .int) 5 n kd R (I) [.ref d] (fun r R' I' => r = nI (dF v (lsF v (fun _ => 0) k).1 (lsF v (fun _ => 0) k).2) ∧ DK kd R' I' d (aaF v (lsF v (fun _ => 0) k).1 (lsF v (fun _ => 0) k).2).1 (kpP p q v) (kpC q) (B + 60000)) := by
  have h16 := hV.k16
  obtain ⟨g0, g1, g2, _, _⟩ := lsF_good (o0 := fun _ => 0) hV k (Nat.le_refl _)
  refine (p_ackAll hD hV hN (by omega)).post (fun r n' kd' R' I' hq => ?_)
  obtain ⟨a1, a2, x', a3, e, hD1⟩ := hq
  refine ⟨a1, a2, x', a3, ?_, hD1⟩
  rw [e, aaF_2 (fun j hj => ?_) g2 _ (Nat.le_refl _)]
  obtain ⟨qq, b1, b2, _⟩ := g1 j hj
  exact ⟨qq, by omega, b2⟩
set_option maxRecDepth 100000 in
set_option maxHeartbeats 4000000 in
theorem ll_acks {E : jx_E} {l : Launch} {n : Nat} {kd : jx_K} {R : jx_R} {I : jx_I} {d : Nat} {v p : Nat → Int32} {q B k T S N : Nat} {i : Nat} (hD : DK kd R I d v p q B) (hV : VI v k T S N) (hN : N ≤ B) (hB : B + 4000000 < 2147483000) (hP : PI v k T) : ∀ (p : Nat → Int32) (q : Nat) (R : jx_R) (I : jx_I) (y8 : Option Value), DK kd R I d v p q B → jx_J E l cL_acks 9 (some .boolean) RL false (jx_rm 7) 0 0 (jx_QR n kd (fun r R' I' => r = nI 1 ∧ LZ kd R' I' d k T (B + 200000))) 0 0 n kd R I 21 [some (.ref d), some (.int (nI i)), some (.int (nI 1)), some (.long (fpr v k T S N)), none, some (.int (nI N)), some (.int (nI (dF v (lsF v (fun _ => 0) k).1 (lsF v (fun _ => 0) k).2))), some (.int (nI ((lsF v (fun _ => 0) k).2))), y8] [] := by
  intro p q R I y8 hD
  have Kd := hD.k5
  have hq4 := hD.q4
  have h16 := hV.k16
  obtain ⟨g0, g1, g2, _, _⟩ := lsF_good (o0 := fun _ => 0) hV k (Nat.le_refl _)
  have hmem : ∀ j, j < (lsF v (fun _ => 0) k).2 → ∃ qq, qq < k ∧ (lsF v (fun _ => 0) k).1 j = nI qq := fun j hj => by
    obtain ⟨qq, b1, b2, _⟩ := g1 j hj
    exact ⟨qq, b1, b2⟩
  have hP1 := hP.aa hV.z h16 (lsF v (fun _ => 0) k).2 hmem
  have hdL := dF_le (v := v) (o := (lsF v (fun _ => 0) k).1) (lsF v (fun _ => 0) k).2
  have hee := aaF_ev (o := (lsF v (fun _ => 0) k).1) hV.z h16 hV.n (by omega) (lsF v (fun _ => 0) k).2 (by omega) hmem
  rw [aaF_2 (fun j hj => by obtain ⟨qq, b1, b2⟩ := hmem j hj; exact ⟨qq, by omega, b2⟩) g2 _ (Nat.le_refl _)] at hee
  obtain ⟨_, ev9, ev3⟩ := hee
  have evk : ¬ nI (dF v (lsF v (fun _ => 0) k).1 (lsF v (fun _ => 0) k).2) = 0 → evOf (aaF v (lsF v (fun _ => 0) k).1 (lsF v (fun _ => 0) k).2).1 (N + dF v (lsF v (fun _ => 0) k).1 (lsF v (fun _ => 0) k).2) 0 1 = nI 3 := by
    intro c
    have c0 : dF v (lsF v (fun _ => 0) k).1 (lsF v (fun _ => 0) k).2 ≠ 0 := fun z => c (by rw [z]; rfl)
    rw [evOf, if_pos (by omega), if_pos (by omega), show N + dF v (lsF v (fun _ => 0) k).1 (lsF v (fun _ => 0) k).2 - 1 - 0 = N + dF v (lsF v (fun _ => 0) k).1 (lsF v (fun _ => 0) k).2 - 1 from by omega]
    exact ev3 c0
  refine j_aload_n (pc' := 22) dL_acks_21 rfl rfl ?_
  refine j_iload (pc' := 24) dL_acks_22 rfl rfl ?_
  refine j_cVi (pc' := 27) m_L_56 (p_list hD hV (by omega) (by omega) (a := (-20009)) (fLs_o (by omega) (by omega))) Kd (by decide) rfl rfl rfl ⟨Nat.le_of_ble_eq_true rfl, Nat.le_of_ble_eq_true rfl⟩ ⟨Nat.le_of_ble_eq_true rfl, Nat.le_of_ble_eq_true rfl⟩ (Nat.le_of_ble_eq_true rfl) dL_acks_24 rfl (fun x1 I1 hq => ?_)
  obtain ⟨hx, hD⟩ := hq
  rw [hx]
  refine j_ifT_lt (tgt := 61) (by decide) dL_acks_27 (by decide) ?_
  refine j_aload_n (pc' := 62) dL_acks_61 rfl rfl ?_
  refine j_cViR (pc' := 65) m_L_81 (p_ackAllG hD hV (by omega) (by omega)) Kd (by decide) rfl rfl rfl ⟨Nat.le_of_ble_eq_true rfl, Nat.le_of_ble_eq_true rfl⟩ ⟨Nat.le_of_ble_eq_true rfl, Nat.le_of_ble_eq_true rfl⟩ (Nat.le_of_ble_eq_true rfl) dL_acks_62 rfl (fun x1 R1 I1 hq => ?_)
  obtain ⟨hx, hD⟩ := hq
  rw [hx]
  obtain ⟨hV1, hN1, _⟩ := hD.to9 (N := N + dF v (lsF v (fun _ => 0) k).1 (lsF v (fun _ => 0) k).2) ((aaF_lo (by omega) _).trans hV.z) h16 ((aaF_lo (by omega) _).trans hV.t) hV.tl ((aaF_lo (by omega) _).trans hV.s) hV.sl ev9 (by omega) (by omega)
  refine j_istore (pc' := 67) (lv' := [_, _, _, _, _, _, _, _, _]) dL_acks_65 rfl (by decide) rfl ?_
  refine j_iload (pc' := 69) dL_acks_67 rfl rfl ?_
  refine j_iload (pc' := 71) dL_acks_69 rfl rfl ?_
  refine j_icmpF_ne (pc' := 74) (tgt := 130) (rfl) dL_acks_71 (by decide) rfl ?_
  refine j_aload_n (pc' := 75) dL_acks_74 rfl rfl ?_
  refine j_cVi (pc' := 78) m_L_65 (p_events hD hV1 (by omega) (by omega) (a := nI (N + dF v (lsF v (fun _ => 0) k).1 (lsF v (fun _ => 0) k).2)) (ev9)) Kd (by decide) rfl rfl rfl ⟨Nat.le_of_ble_eq_true rfl, Nat.le_of_ble_eq_true rfl⟩ ⟨Nat.le_of_ble_eq_true rfl, Nat.le_of_ble_eq_true rfl⟩ (Nat.le_of_ble_eq_true rfl) dL_acks_75 rfl (fun x1 J1 hq => ?_)
  obtain ⟨hx, hI⟩ := hq
  rw [hx, hI]
  refine j_iload (pc' := 80) dL_acks_78 rfl rfl ?_
  refine j_iload (pc' := 82) dL_acks_80 rfl rfl ?_
  refine j_iaddN' (pc' := 83) (by with_reducible rfl) (by with_reducible rfl) dL_acks_82 rfl ?_
  refine j_icmpF_ne (pc' := 86) (tgt := 130) (rfl) dL_acks_83 (by decide) rfl ?_
  refine j_iload (pc' := 88) dL_acks_86 rfl rfl ?_
  refine jx_cut (B := jx_J E l cL_acks 9 (some .boolean) RL false (jx_rm 7) 0 0 (jx_QR n kd (fun r R' I' => r = nI 1 ∧ LZ kd R' I' d k T (B + 200000))) 0 0 n kd R1 I1 101 [some (.ref d), some (.int (nI i)), some (.int (nI 1)), some (.long (fpr v k T S N)), none, some (.int (nI N)), some (.int (nI (dF v (lsF v (fun _ => 0) k).1 (lsF v (fun _ => 0) k).2))), some (.int (nI (dF v (lsF v (fun _ => 0) k).1 (lsF v (fun _ => 0) k).2))), y8] []) (fun kk => ?_) ?_
  ·
    refine j_if_eq (pc' := 91) (tgt := 101) dL_acks_88 rfl (by decide) (fun c88 => ?_) (fun c88 => ?_)
    ·
      exact kk
    ·
      refine j_aload_n (pc' := 92) dL_acks_91 rfl rfl ?_
      refine j_iconst (pc' := 93) (v := nI 0) dL_acks_92 rfl rfl ?_
      refine j_iconst (pc' := 94) (v := nI 1) dL_acks_93 rfl rfl ?_
      refine j_cVi (pc' := 97) m_L_62 (p_event hD hV1 (by omega) (by omega) (a := nI 3) ((fEv_w (by omega) (by omega)).trans (evk c88))) Kd (by decide) rfl rfl rfl ⟨Nat.le_of_ble_eq_true rfl, Nat.le_of_ble_eq_true rfl⟩ ⟨Nat.le_of_ble_eq_true rfl, Nat.le_of_ble_eq_true rfl⟩ (Nat.le_of_ble_eq_true rfl) dL_acks_94 rfl (fun x1 J1 hq => ?_)
      obtain ⟨hx, hI⟩ := hq
      rw [hx, hI]
      refine j_iconst (pc' := 98) (v := nI 3) dL_acks_97 rfl rfl ?_
      refine j_icmpF_ne (pc' := 101) (tgt := 130) (by decide) dL_acks_98 (by decide) rfl ?_
      exact kk
  ·
    refine j_aload_n (pc' := 102) dL_acks_101 rfl rfl ?_
    refine j_cViR (pc' := 105) m_L_84 (p_undo hD hq4) Kd (by decide) rfl rfl rfl ⟨Nat.le_of_ble_eq_true rfl, Nat.le_of_ble_eq_true rfl⟩ ⟨Nat.le_of_ble_eq_true rfl, Nat.le_of_ble_eq_true rfl⟩ (Nat.le_of_ble_eq_true rfl) dL_acks_102 rfl (fun x1 R1 I1 hq => ?_)
    obtain ⟨⟨zu, hzu, hx⟩, p1, q1, hD⟩ := hq
    rw [hx]
    refine j_ifF_lt (pc' := 108) (tgt := 130) (nI_pos (by omega)) dL_acks_105 (by decide) rfl ?_
    refine j_aload_n (pc' := 109) dL_acks_108 rfl rfl ?_
    refine j_cV0 (pc' := 112) m_L_9 (p_fingerprint hD hV (by omega) (by omega)) Kd (by decide) rfl rfl rfl ⟨Nat.le_of_ble_eq_true rfl, Nat.le_of_ble_eq_true rfl⟩ ⟨Nat.le_of_ble_eq_true rfl, Nat.le_of_ble_eq_true rfl⟩ (Nat.le_of_ble_eq_true rfl) dL_acks_109 rfl (fun v1 J1 hq => ?_)
    obtain ⟨hx, hI⟩ := hq
    rw [hx, hI]
    refine j_lload_n (pc' := 113) dL_acks_112 rfl rfl ?_
    refine j_lcmp (pc' := 114) dL_acks_113 rfl ?_
    rw [lg_self]
    refine j_ifF_ne (pc' := 117) (tgt := 130) (by decide) dL_acks_114 (by decide) rfl ?_
    refine j_aload_n (pc' := 118) dL_acks_117 rfl rfl ?_
    refine j_cViR (pc' := 121) m_L_81 (p_ackAllG hD hV (by omega) (by omega)) Kd (by decide) rfl rfl rfl ⟨Nat.le_of_ble_eq_true rfl, Nat.le_of_ble_eq_true rfl⟩ ⟨Nat.le_of_ble_eq_true rfl, Nat.le_of_ble_eq_true rfl⟩ (Nat.le_of_ble_eq_true rfl) dL_acks_118 rfl (fun x1 R1 I1 hq => ?_)
    obtain ⟨hx, hD⟩ := hq
    rw [hx]
    refine j_iload (pc' := 123) dL_acks_121 rfl rfl ?_
    refine j_icmpF_ne (pc' := 126) (tgt := 130) (rfl) dL_acks_123 (by decide) rfl ?_
    refine j_iconst (pc' := 127) (v := nI 1) dL_acks_126 rfl rfl ?_
    refine j_goto (tgt := 131) dL_acks_127 (by decide) ?_
    refine j_retiR dL_acks_131 rfl (by first | rfl | exact bi_n _) ?_
    exact ⟨rfl, _, _, _, S, _, hD.mono (by omega), hV1, by omega, hP1⟩
set_option maxRecDepth 100000 in
set_option maxHeartbeats 4000000 in
theorem lp_acks {E : jx_E} {l : Launch} {n : Nat} {kd : jx_K} {R : jx_R} {d : Nat} {v p : Nat → Int32} {q B k T S N : Nat} {i : Nat} (hV : VI v k T S N) (hN : N ≤ B) (hB : B + 4000000 < 2147483000) (hP : PI v k T) : ∀ (z j : Nat) (I : jx_I) (y8 : Option Value), DK kd R I d v p q B → z + j = (lsF v (fun _ => 0) k).2 → j ≤ (lsF v (fun _ => 0) k).2 → jx_J E l cL_acks 9 (some .boolean) RL false (jx_rm 7) 0 0 (jx_QR n kd (fun r R' I' => r = nI 1 ∧ LZ kd R' I' d k T (B + 200000))) 0 0 n kd R I 21 [some (.ref d), some (.int (nI i)), some (.int (nI 1)), some (.long (fpr v k T S N)), none, some (.int (nI N)), some (.int (nI (dF v (lsF v (fun _ => 0) k).1 j))), some (.int (nI j)), y8] [] := by
  have h16 := hV.k16
  obtain ⟨g0, g1, g2, _, _⟩ := lsF_good (o0 := fun _ => 0) hV k (Nat.le_refl _)
  have hmem : ∀ j, j < (lsF v (fun _ => 0) k).2 → ∃ qq, qq < k ∧ (lsF v (fun _ => 0) k).1 j = nI qq := fun j hj => by
    obtain ⟨qq, b1, b2, _⟩ := g1 j hj
    exact ⟨qq, b1, b2⟩
  intro z
  induction z with
  | zero =>
    intro j I y8 hD hz hj
    have e : j = (lsF v (fun _ => 0) k).2 := by omega
    rw [e]
    exact ll_acks hD hV hN hB hP p q R I y8 hD
  | succ z ih =>
    intro j I y8 hD hz hj0
    have Kd := hD.k5
    have hj : j < (lsF v (fun _ => 0) k).2 := by omega
    obtain ⟨qq, hqk, eq⟩ := hmem j hj
    refine j_aload_n (pc' := 22) dL_acks_21 rfl rfl ?_
    refine j_iload (pc' := 24) dL_acks_22 rfl rfl ?_
    refine j_cVi (pc' := 27) m_L_56 (p_list hD hV (by omega) (by omega) (a := nI qq) ((fLs_i h16 hj).trans eq)) Kd (by decide) rfl rfl rfl ⟨Nat.le_of_ble_eq_true rfl, Nat.le_of_ble_eq_true rfl⟩ ⟨Nat.le_of_ble_eq_true rfl, Nat.le_of_ble_eq_true rfl⟩ (Nat.le_of_ble_eq_true rfl) dL_acks_24 rfl (fun x1 I1 hq => ?_)
    obtain ⟨hx, hD⟩ := hq
    rw [hx]
    refine j_ifF_lt (pc' := 30) (tgt := 61) (nI_pos (by omega)) dL_acks_27 (by decide) rfl ?_
    refine j_iload (pc' := 32) dL_acks_30 rfl rfl ?_
    refine j_aload_n (pc' := 33) dL_acks_32 rfl rfl ?_
    refine j_aload_n (pc' := 34) dL_acks_33 rfl rfl ?_
    refine j_iload (pc' := 36) dL_acks_34 rfl rfl ?_
    refine j_cVi (pc' := 39) m_L_56 (p_list hD hV (by omega) (by omega) (a := nI qq) ((fLs_i h16 hj).trans eq)) Kd (by decide) rfl rfl rfl ⟨Nat.le_of_ble_eq_true rfl, Nat.le_of_ble_eq_true rfl⟩ ⟨Nat.le_of_ble_eq_true rfl, Nat.le_of_ble_eq_true rfl⟩ (Nat.le_of_ble_eq_true rfl) dL_acks_36 rfl (fun x1 I1 hq => ?_)
    obtain ⟨hx, hD⟩ := hq
    rw [hx]
    refine j_bipush (pc' := 41) (v := nI 10) dL_acks_39 rfl rfl ?_
    refine j_cVi (pc' := 44) m_L_31 (p_point hD hV (by omega) (by omega) (a := v (176 + 56 * qq + 10)) (fPt_w hV.z h16 hqk (show 10 < 15 from by omega))) Kd (by decide) rfl rfl rfl ⟨Nat.le_of_ble_eq_true rfl, Nat.le_of_ble_eq_true rfl⟩ ⟨Nat.le_of_ble_eq_true rfl, Nat.le_of_ble_eq_true rfl⟩ (Nat.le_of_ble_eq_true rfl) dL_acks_41 rfl (fun x1 J1 hq => ?_)
    obtain ⟨hx, hI⟩ := hq
    rw [hx, hI]
    refine j_if_ne (pc' := 47) (tgt := 51) dL_acks_44 rfl (by decide) (fun c44 => ?_) (fun c44 => ?_)
    ·
      refine j_iconst (pc' := 52) (v := nI 0) dL_acks_51 rfl rfl ?_
      refine j_iaddN' (pc' := 53) (by with_reducible rfl) (by with_reducible rfl) dL_acks_52 rfl ?_
      refine j_istore (pc' := 55) (lv' := [_, _, _, _, _, _, _, _, _]) dL_acks_53 rfl (by decide) rfl ?_
      refine j_iincN (pc' := 58) (lv' := [_, _, _, _, _, _, _, _, _]) dL_acks_55 rfl rfl (by decide) rfl ?_
      refine j_goto (tgt := 21) dL_acks_58 (by decide) ?_
      have e : dF v (lsF v (fun _ => 0) k).1 (j + 1) = dF v (lsF v (fun _ => 0) k).1 j + 0 := by rw [dF, eq, nI_clamp (show qq < 2147483648 from by omega)]; rw [if_neg c44]
      have e2 := ih (j + 1) _ y8 hD (by omega) (by omega)
      rw [e] at e2
      exact e2
    ·
      refine j_iconst (pc' := 48) (v := nI 1) dL_acks_47 rfl rfl ?_
      refine j_goto (tgt := 52) dL_acks_48 (by decide) ?_
      refine j_iaddN' (pc' := 53) (by with_reducible rfl) (by with_reducible rfl) dL_acks_52 rfl ?_
      refine j_istore (pc' := 55) (lv' := [_, _, _, _, _, _, _, _, _]) dL_acks_53 rfl (by decide) rfl ?_
      refine j_iincN (pc' := 58) (lv' := [_, _, _, _, _, _, _, _, _]) dL_acks_55 rfl rfl (by decide) rfl ?_
      refine j_goto (tgt := 21) dL_acks_58 (by decide) ?_
      have e : dF v (lsF v (fun _ => 0) k).1 (j + 1) = dF v (lsF v (fun _ => 0) k).1 j + 1 := by rw [dF, eq, nI_clamp (show qq < 2147483648 from by omega)]; rw [if_pos c44]
      have e2 := ih (j + 1) _ y8 hD (by omega) (by omega)
      rw [e] at e2
      exact e2
set_option maxRecDepth 100000 in
set_option maxHeartbeats 4000000 in
theorem c_L_acksT {E : jx_E} {l : Launch} {n : Nat} {kd : jx_K} {R : jx_R} {I : jx_I} {d : Nat} {v p : Nat → Int32} {q B k T S N : Nat} {i : Nat} (hD : DK kd R I d v p q B) (hV : VI v k T S N) (hN : N ≤ B) (hB : B + 4000000 < 2147483000) (hP : PI v k T) : jx_CiR E l yL_acks cL_acks 9 (some .boolean) 7 n kd R I [.ref d, .int (nI i), .int (nI 1)] (fun r R' I' => r = nI 1 ∧ LZ kd R' I' d k T (B + 200000)) := by
  have h16 := hV.k16
  have Kd := hD.k5
  refine jx_CtR.ofJ RL [some (.ref d), some (.int (nI i)), some (.int (nI 1)), none, none, none, none, none, none] (by decide) rfl rfl (Nat.le_of_ble_eq_true rfl) rfl ?_
  refine j_aload_n (pc' := 1) dL_acks_0 rfl rfl ?_
  refine j_cV0 (pc' := 4) m_L_9 (p_fingerprint hD hV (by omega) (by omega)) Kd (by decide) rfl rfl rfl ⟨Nat.le_of_ble_eq_true rfl, Nat.le_of_ble_eq_true rfl⟩ ⟨Nat.le_of_ble_eq_true rfl, Nat.le_of_ble_eq_true rfl⟩ (Nat.le_of_ble_eq_true rfl) dL_acks_1 rfl (fun v1 J1 hq => ?_)
  obtain ⟨hx, hI⟩ := hq
  rw [hx, hI]
  refine j_lstore_n (pc' := 5) (lv' := [_, _, _, _, _, _, _, _, _]) dL_acks_4 rfl (by decide) rfl ?_
  refine j_aload_n (pc' := 6) dL_acks_5 rfl rfl ?_
  refine j_cVi (pc' := 9) m_L_65 (p_events hD hV (by omega) (by omega) (a := nI N) (hV.n)) Kd (by decide) rfl rfl rfl ⟨Nat.le_of_ble_eq_true rfl, Nat.le_of_ble_eq_true rfl⟩ ⟨Nat.le_of_ble_eq_true rfl, Nat.le_of_ble_eq_true rfl⟩ (Nat.le_of_ble_eq_true rfl) dL_acks_6 rfl (fun x1 J1 hq => ?_)
  obtain ⟨hx, hI⟩ := hq
  rw [hx, hI]
  refine j_istore (pc' := 11) (lv' := [_, _, _, _, _, _, _, _, _]) dL_acks_9 rfl (by decide) rfl ?_
  refine j_iload_n (pc' := 12) dL_acks_11 rfl rfl ?_
  refine j_ifF_eq (pc' := 15) (tgt := 132) (by decide) dL_acks_12 (by decide) rfl ?_
  refine j_iconst (pc' := 16) (v := nI 0) dL_acks_15 rfl rfl ?_
  refine j_istore (pc' := 18) (lv' := [_, _, _, _, _, _, _, _, _]) dL_acks_16 rfl (by decide) rfl ?_
  refine j_iconst (pc' := 19) (v := nI 0) dL_acks_18 rfl rfl ?_
  refine j_istore (pc' := 21) (lv' := [_, _, _, _, _, _, _, _, _]) dL_acks_19 rfl (by decide) rfl ?_
  exact lp_acks hV (by omega) hB hP (lsF v (fun _ => 0) k).2 0 _ none hD (Nat.add_zero _) (Nat.zero_le _)
