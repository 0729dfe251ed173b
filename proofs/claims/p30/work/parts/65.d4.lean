/-! ===== the desk: its print, its mean, what is undone, typed ===== -/
theorem fPl_5 {v : Nat → Int32} {T S j : Nat} (hj : j < 5) : fPlant v T S (nI j) = pl5 v T S j := by
  have : j = 0 ∨ j = 1 ∨ j = 2 ∨ j = 3 ∨ j = 4 := by omega
  rcases this with rfl | rfl | rfl | rfl | rfl
  · rw [fPlant, if_pos (by decide), if_pos (by decide)]; rfl
  · rw [fPlant, if_pos (by decide), if_neg (by decide), if_pos (by decide)]; rfl
  · rw [fPlant, if_pos (by decide), if_neg (by decide), if_neg (by decide), if_pos (by decide)]; rfl
  · rw [fPlant, if_pos (by decide), if_neg (by decide), if_neg (by decide), if_neg (by decide), if_pos (by decide)]; rfl
  · rw [fPlant, if_pos (by decide), if_neg (by decide), if_neg (by decide), if_neg (by decide), if_neg (by decide)]; rfl
theorem nI_in16 {j : Nat} {b : Nat} (hj : j ≤ b) (hb : b < 2147483648) : decide (nI 0 ≤ nI j ∧ nI j ≤ nI b) = true := decide_eq_true ⟨(nI_leI (by omega) (by omega)).mpr (Nat.zero_le _), (nI_leI (by omega) (by omega)).mpr hj⟩
theorem fPt_t {v : Nat → Int32} {k i j : Nat} (hk : v 0 = nI k) (h16 : k ≤ 16) (hi : i < k) (hj : j < 16) : fPoint v (nI i) (nI j) = tol v i j := by
  rw [fPoint, if_pos (okP_of hk h16 hi), if_pos (nI_in16 (by omega) (by omega)), nI_clamp (by omega), nI_clamp (by omega)]
  rfl
theorem fEv_t {v : Nat → Int32} {N i j : Nat} (hi : i < 30) (hj : j < 3) : fEvent v N (nI i) (nI j) = evOf v N i j := by
  rw [fEvent, if_neg (nI_pos (by omega)), if_pos (nI_in16 (by omega) (by omega)), nI_clamp (by omega), nI_clamp (by omega)]
set_option maxRecDepth 100000 in
set_option maxHeartbeats 4000000 in
theorem lp1_X5_fingerprint {E : jx_E} {l : Launch} {n : Nat} {kd : jx_K} {R : jx_R} {I : jx_I} {d : Nat} {P : Nat → Nat} {v : Nat → Int32} {k T S N : Nat} {Q : jx_Q} (hs : sDk kd R d P) (hA : aSt I (stA d (P 4)) v k T) (hV : VI v k T S N) (hNb : N + 5000 < 2147483000) (hx : jx_J E l cX5_fingerprint 5 (some .long) RX5 false (jx_rm 6) 0 0 (Q) 0 0 n kd R (I) 30 [some (.ref d), some (.long (fpL (pl5 v T S) 5 157)), none, some (.int (nI 5)), none] []) : ∀ (z j : Nat), j ≤ 5 → z + j = 6 → jx_J E l cX5_fingerprint 5 (some .long) RX5 false (jx_rm 6) 0 0 (Q) 0 0 n kd R (I) 6 [some (.ref d), some (.long (fpL (pl5 v T S) j 157)), none, some (.int (nI j)), none] [] := by
  obtain ⟨K0, K6, K7, R0, R1, R2, R4, R5, Rp, hsc, hst, hP6, hinj⟩ := id hs
  have S4 := hs.st (show 4 < 6 from by omega)
  have S5 := hs.st (show 5 < 6 from by omega)
  have K4 := S4.1
  have K5 := S5.1
  obtain ⟨_, QK1, QR0, QR1, QR2, hF, hL, hP⟩ := id S4
  obtain ⟨FK0, FK1, FR0⟩ := id hF
  obtain ⟨LK0, LK1, LK2, LK3, LR0, LR1, LR2⟩ := id hL
  have h : aS I I (stA d (P 4)) v k T S N := ⟨hA, hV, fun _ _ => rfl⟩
  have h16 := hV.k16
  have hT1 := hV.tl
  have hS1 := hV.sl
  intro z
  induction z with
  | zero => intro j hj hz; omega
  | succ z ih =>
    intro j hj hz
    refine j_iload_n (pc' := 7) dX5_fingerprint_6 rfl rfl ?_
    refine j_iconst (pc' := 8) (v := nI 5) dX5_fingerprint_7 rfl rfl ?_
    first | refine j_icmp_geN' (tgt := 30) (pc' := 11) (by with_reducible rfl) (by with_reducible rfl) (by omega) (by omega) dX5_fingerprint_8 rfl (by decide) (fun c8 => ?_) (fun c8 => ?_) | refine j_icmp_ge (tgt := 30) (pc' := 11) dX5_fingerprint_8 rfl (by decide) (fun c8 => ?_) (fun c8 => ?_)
    ·
      have : j = 5 := by omega
      subst this
      exact hx
    ·
      refine j_ldc2 (pc' := 14) k_323 dX5_fingerprint_11 rfl ?_
      refine j_lload_n (pc' := 15) dX5_fingerprint_14 rfl rfl ?_
      refine j_lmul (pc' := 16) dX5_fingerprint_15 rfl ?_
      refine j_aload_n (pc' := 17) dX5_fingerprint_16 rfl rfl ?_
      refine j_iload_n (pc' := 18) dX5_fingerprint_17 rfl rfl ?_
      refine j_cVi (pc' := 21) m_X5_189 (c_X5_plant hs hA hV hNb) (by assumption) (by decide) rfl rfl rfl ⟨Nat.le_of_ble_eq_true rfl, Nat.le_of_ble_eq_true rfl⟩ ⟨Nat.zero_le _, Nat.zero_le _⟩ (Nat.le_of_ble_eq_true rfl) dX5_fingerprint_18 rfl (fun x1 I1 hq => ?_)
      obtain ⟨rfl, rfl⟩ := hq
      refine j_i2l (pc' := 22) dX5_fingerprint_21 rfl ?_
      refine j_ladd (pc' := 23) dX5_fingerprint_22 rfl ?_
      refine j_lstore_n (pc' := 24) (lv' := [_, _, _, _, _]) dX5_fingerprint_23 rfl (by decide) rfl ?_
      first | refine j_iincN (pc' := 27) (lv' := [_, _, _, _, _]) dX5_fingerprint_24 rfl rfl (by decide) rfl ?_ | refine j_iinc (pc' := 27) (lv' := [_, _, _, _, _]) dX5_fingerprint_24 rfl rfl rfl (by decide) rfl ?_
      refine j_goto (tgt := 6) dX5_fingerprint_27 (by decide) ?_
      rw [fpL_s (f := pl5 v T S) (i := j) (fPl_5 (by omega)).symm]
      exact ih (j + 1) (by omega) (by omega)
set_option maxRecDepth 100000 in
set_option maxHeartbeats 4000000 in
theorem lp2_X5_fingerprint {E : jx_E} {l : Launch} {n : Nat} {kd : jx_K} {R : jx_R} {I : jx_I} {d : Nat} {P : Nat → Nat} {v : Nat → Int32} {k T S N : Nat} {Q : jx_Q} {i : Nat} {g : Int64} (hs : sDk kd R d P) (hA : aSt I (stA d (P 4)) v k T) (hV : VI v k T S N) (hNb : N + 5000 < 2147483000) (hi : i < k) (hx : jx_J E l cX5_fingerprint 5 (some .long) RX5 false (jx_rm 6) 0 0 (Q) 0 0 n kd R (I) 83 [some (.ref d), some (.long (fpL (tol v i) 16 g)), none, some (.int (nI i)), some (.int (nI 16))] []) : ∀ (z j : Nat), j ≤ 16 → z + j = 17 → jx_J E l cX5_fingerprint 5 (some .long) RX5 false (jx_rm 6) 0 0 (Q) 0 0 n kd R (I) 55 [some (.ref d), some (.long (fpL (tol v i) j g)), none, some (.int (nI i)), some (.int (nI j))] [] := by
  obtain ⟨K0, K6, K7, R0, R1, R2, R4, R5, Rp, hsc, hst, hP6, hinj⟩ := id hs
  have S4 := hs.st (show 4 < 6 from by omega)
  have S5 := hs.st (show 5 < 6 from by omega)
  have K4 := S4.1
  have K5 := S5.1
  obtain ⟨_, QK1, QR0, QR1, QR2, hF, hL, hP⟩ := id S4
  obtain ⟨FK0, FK1, FR0⟩ := id hF
  obtain ⟨LK0, LK1, LK2, LK3, LR0, LR1, LR2⟩ := id hL
  have h : aS I I (stA d (P 4)) v k T S N := ⟨hA, hV, fun _ _ => rfl⟩
  have h16 := hV.k16
  have hT1 := hV.tl
  have hS1 := hV.sl
  intro z
  induction z with
  | zero => intro j hj hz; omega
  | succ z ih =>
    intro j hj hz
    refine j_iload (pc' := 57) dX5_fingerprint_55 rfl rfl ?_
    refine j_bipush (pc' := 59) (v := nI 16) dX5_fingerprint_57 rfl rfl ?_
    first | refine j_icmp_geN' (tgt := 83) (pc' := 62) (by with_reducible rfl) (by with_reducible rfl) (by omega) (by omega) dX5_fingerprint_59 rfl (by decide) (fun c59 => ?_) (fun c59 => ?_) | refine j_icmp_ge (tgt := 83) (pc' := 62) dX5_fingerprint_59 rfl (by decide) (fun c59 => ?_) (fun c59 => ?_)
    ·
      have : j = 16 := by omega
      subst this
      exact hx
    ·
      refine j_ldc2 (pc' := 65) k_323 dX5_fingerprint_62 rfl ?_
      refine j_lload_n (pc' := 66) dX5_fingerprint_65 rfl rfl ?_
      refine j_lmul (pc' := 67) dX5_fingerprint_66 rfl ?_
      refine j_aload_n (pc' := 68) dX5_fingerprint_67 rfl rfl ?_
      refine j_iload_n (pc' := 69) dX5_fingerprint_68 rfl rfl ?_
      refine j_iload (pc' := 71) dX5_fingerprint_69 rfl rfl ?_
      refine j_cVi (pc' := 74) m_X5_194 (c_X5_point hs hA hV hNb) (by assumption) (by decide) rfl rfl rfl ⟨Nat.le_of_ble_eq_true rfl, Nat.le_of_ble_eq_true rfl⟩ ⟨Nat.zero_le _, Nat.zero_le _⟩ (Nat.le_of_ble_eq_true rfl) dX5_fingerprint_71 rfl (fun x1 I1 hq => ?_)
      obtain ⟨rfl, rfl⟩ := hq
      refine j_i2l (pc' := 75) dX5_fingerprint_74 rfl ?_
      refine j_ladd (pc' := 76) dX5_fingerprint_75 rfl ?_
      refine j_lstore_n (pc' := 77) (lv' := [_, _, _, _, _]) dX5_fingerprint_76 rfl (by decide) rfl ?_
      first | refine j_iincN (pc' := 80) (lv' := [_, _, _, _, _]) dX5_fingerprint_77 rfl rfl (by decide) rfl ?_ | refine j_iinc (pc' := 80) (lv' := [_, _, _, _, _]) dX5_fingerprint_77 rfl rfl rfl (by decide) rfl ?_
      refine j_goto (tgt := 55) dX5_fingerprint_80 (by decide) ?_
      rw [fpL_s (f := tol v i) (i := j) (fPt_t hV.z h16 hi (by omega)).symm]
      exact ih (j + 1) (by omega) (by omega)
set_option maxRecDepth 100000 in
set_option maxHeartbeats 4000000 in
theorem lp3_X5_fingerprint {E : jx_E} {l : Launch} {n : Nat} {kd : jx_K} {R : jx_R} {I : jx_I} {d : Nat} {P : Nat → Nat} {v : Nat → Int32} {k T S N : Nat} {Q : jx_Q} {g : Int64} (hs : sDk kd R d P) (hA : aSt I (stA d (P 4)) v k T) (hV : VI v k T S N) (hNb : N + 5000 < 2147483000) (hx : ∀ y, jx_J E l cX5_fingerprint 5 (some .long) RX5 false (jx_rm 6) 0 0 (Q) 0 0 n kd R (I) 89 [some (.ref d), some (.long (fp2 (tol v) 16 k g)), none, some (.int (nI k)), y] []) : ∀ (z i : Nat) (y : Option Value), i ≤ k → z + i = k + 1 → jx_J E l cX5_fingerprint 5 (some .long) RX5 false (jx_rm 6) 0 0 (Q) 0 0 n kd R (I) 44 [some (.ref d), some (.long (fp2 (tol v) 16 i g)), none, some (.int (nI i)), y] [] := by
  obtain ⟨K0, K6, K7, R0, R1, R2, R4, R5, Rp, hsc, hst, hP6, hinj⟩ := id hs
  have S4 := hs.st (show 4 < 6 from by omega)
  have S5 := hs.st (show 5 < 6 from by omega)
  have K4 := S4.1
  have K5 := S5.1
  obtain ⟨_, QK1, QR0, QR1, QR2, hF, hL, hP⟩ := id S4
  obtain ⟨FK0, FK1, FR0⟩ := id hF
  obtain ⟨LK0, LK1, LK2, LK3, LR0, LR1, LR2⟩ := id hL
  have h : aS I I (stA d (P 4)) v k T S N := ⟨hA, hV, fun _ _ => rfl⟩
  have h16 := hV.k16
  have hT1 := hV.tl
  have hS1 := hV.sl
  intro z
  induction z with
  | zero => intro i y hi hz; omega
  | succ z ih =>
    intro i y hi hz
    refine j_iload_n (pc' := 45) dX5_fingerprint_44 rfl rfl ?_
    refine j_aload_n (pc' := 46) dX5_fingerprint_45 rfl rfl ?_
    refine j_cVi (pc' := 49) m_X5_192 (c_X5_points hs hA hV hNb) (by assumption) (by decide) rfl rfl rfl ⟨Nat.le_of_ble_eq_true rfl, Nat.le_of_ble_eq_true rfl⟩ ⟨Nat.zero_le _, Nat.zero_le _⟩ (Nat.le_of_ble_eq_true rfl) dX5_fingerprint_46 rfl (fun x1 I1 hq => ?_)
    obtain ⟨rfl, rfl⟩ := hq
    rw [hV.z]
    first | refine j_icmp_geN' (tgt := 89) (pc' := 52) (by with_reducible rfl) (by with_reducible rfl) (by omega) (by omega) dX5_fingerprint_49 rfl (by decide) (fun c49 => ?_) (fun c49 => ?_) | refine j_icmp_ge (tgt := 89) (pc' := 52) dX5_fingerprint_49 rfl (by decide) (fun c49 => ?_) (fun c49 => ?_)
    ·
      have : i = k := by omega
      subst this
      exact hx y
    ·
      refine j_iconst (pc' := 53) (v := nI 0) dX5_fingerprint_52 rfl rfl ?_
      refine j_istore (pc' := 55) (lv' := [_, _, _, _, _]) dX5_fingerprint_53 rfl (by decide) rfl ?_
      refine lp2_X5_fingerprint hs hA hV hNb (by omega) ?_ 17 0 (by omega) (by omega)
      first | refine j_iincN (pc' := 86) (lv' := [_, _, _, _, _]) dX5_fingerprint_83 rfl rfl (by decide) rfl ?_ | refine j_iinc (pc' := 86) (lv' := [_, _, _, _, _]) dX5_fingerprint_83 rfl rfl rfl (by decide) rfl ?_
      refine j_goto (tgt := 44) dX5_fingerprint_86 (by decide) ?_
      exact ih (i + 1) _ (by omega) (by omega)
set_option maxRecDepth 100000 in
set_option maxHeartbeats 4000000 in
theorem lp4_X5_fingerprint {E : jx_E} {l : Launch} {n : Nat} {kd : jx_K} {R : jx_R} {I : jx_I} {d : Nat} {P : Nat → Nat} {v : Nat → Int32} {k T S N : Nat} {Q : jx_Q} {i : Nat} {g : Int64} (hs : sDk kd R d P) (hA : aSt I (stA d (P 4)) v k T) (hV : VI v k T S N) (hNb : N + 5000 < 2147483000) (hi : i < 30) (hx : jx_J E l cX5_fingerprint 5 (some .long) RX5 false (jx_rm 6) 0 0 (Q) 0 0 n kd R (I) 147 [some (.ref d), some (.long (fpL (evOf v N i) 3 g)), none, some (.int (nI i)), some (.int (nI 3))] []) : ∀ (z j : Nat), j ≤ 3 → z + j = 4 → jx_J E l cX5_fingerprint 5 (some .long) RX5 false (jx_rm 6) 0 0 (Q) 0 0 n kd R (I) 120 [some (.ref d), some (.long (fpL (evOf v N i) j g)), none, some (.int (nI i)), some (.int (nI j))] [] := by
  obtain ⟨K0, K6, K7, R0, R1, R2, R4, R5, Rp, hsc, hst, hP6, hinj⟩ := id hs
  have S4 := hs.st (show 4 < 6 from by omega)
  have S5 := hs.st (show 5 < 6 from by omega)
  have K4 := S4.1
  have K5 := S5.1
  obtain ⟨_, QK1, QR0, QR1, QR2, hF, hL, hP⟩ := id S4
  obtain ⟨FK0, FK1, FR0⟩ := id hF
  obtain ⟨LK0, LK1, LK2, LK3, LR0, LR1, LR2⟩ := id hL
  have h : aS I I (stA d (P 4)) v k T S N := ⟨hA, hV, fun _ _ => rfl⟩
  have h16 := hV.k16
  have hT1 := hV.tl
  have hS1 := hV.sl
  intro z
  induction z with
  | zero => intro j hj hz; omega
  | succ z ih =>
    intro j hj hz
    refine j_iload (pc' := 122) dX5_fingerprint_120 rfl rfl ?_
    refine j_iconst (pc' := 123) (v := nI 3) dX5_fingerprint_122 rfl rfl ?_
    first | refine j_icmp_geN' (tgt := 147) (pc' := 126) (by with_reducible rfl) (by with_reducible rfl) (by omega) (by omega) dX5_fingerprint_123 rfl (by decide) (fun c123 => ?_) (fun c123 => ?_) | refine j_icmp_ge (tgt := 147) (pc' := 126) dX5_fingerprint_123 rfl (by decide) (fun c123 => ?_) (fun c123 => ?_)
    ·
      have : j = 3 := by omega
      subst this
      exact hx
    ·
      refine j_ldc2 (pc' := 129) k_323 dX5_fingerprint_126 rfl ?_
      refine j_lload_n (pc' := 130) dX5_fingerprint_129 rfl rfl ?_
      refine j_lmul (pc' := 131) dX5_fingerprint_130 rfl ?_
      refine j_aload_n (pc' := 132) dX5_fingerprint_131 rfl rfl ?_
      refine j_iload_n (pc' := 133) dX5_fingerprint_132 rfl rfl ?_
      refine j_iload (pc' := 135) dX5_fingerprint_133 rfl rfl ?_
      refine j_cVi (pc' := 138) m_X5_200 (c_X5_event hs hA hV hNb) (by assumption) (by decide) rfl rfl rfl ⟨Nat.le_of_ble_eq_true rfl, Nat.le_of_ble_eq_true rfl⟩ ⟨Nat.zero_le _, Nat.zero_le _⟩ (Nat.le_of_ble_eq_true rfl) dX5_fingerprint_135 rfl (fun x1 I1 hq => ?_)
      obtain ⟨rfl, rfl⟩ := hq
      refine j_i2l (pc' := 139) dX5_fingerprint_138 rfl ?_
      refine j_ladd (pc' := 140) dX5_fingerprint_139 rfl ?_
      refine j_lstore_n (pc' := 141) (lv' := [_, _, _, _, _]) dX5_fingerprint_140 rfl (by decide) rfl ?_
      first | refine j_iincN (pc' := 144) (lv' := [_, _, _, _, _]) dX5_fingerprint_141 rfl rfl (by decide) rfl ?_ | refine j_iinc (pc' := 144) (lv' := [_, _, _, _, _]) dX5_fingerprint_141 rfl rfl rfl (by decide) rfl ?_
      refine j_goto (tgt := 120) dX5_fingerprint_144 (by decide) ?_
      rw [fpL_s (f := evOf v N i) (i := j) (fEv_t hi (by omega)).symm]
      exact ih (j + 1) (by omega) (by omega)
set_option maxRecDepth 100000 in
set_option maxHeartbeats 4000000 in
theorem lp5_X5_fingerprint {E : jx_E} {l : Launch} {n : Nat} {kd : jx_K} {R : jx_R} {I : jx_I} {d : Nat} {P : Nat → Nat} {v : Nat → Int32} {k T S N : Nat} {Q : jx_Q} {g : Int64} (hs : sDk kd R d P) (hA : aSt I (stA d (P 4)) v k T) (hV : VI v k T S N) (hNb : N + 5000 < 2147483000) (hx : ∀ y, jx_J E l cX5_fingerprint 5 (some .long) RX5 false (jx_rm 6) 0 0 (Q) 0 0 n kd R (I) 153 [some (.ref d), some (.long (fp2 (evOf v N) 3 (wA N) g)), none, some (.int (nI (wA N))), y] []) : ∀ (z i : Nat) (y : Option Value), i ≤ wA N → z + i = wA N + 1 → jx_J E l cX5_fingerprint 5 (some .long) RX5 false (jx_rm 6) 0 0 (Q) 0 0 n kd R (I) 103 [some (.ref d), some (.long (fp2 (evOf v N) 3 i g)), none, some (.int (nI i)), y] [] := by
  obtain ⟨K0, K6, K7, R0, R1, R2, R4, R5, Rp, hsc, hst, hP6, hinj⟩ := id hs
  have S4 := hs.st (show 4 < 6 from by omega)
  have S5 := hs.st (show 5 < 6 from by omega)
  have K4 := S4.1
  have K5 := S5.1
  obtain ⟨_, QK1, QR0, QR1, QR2, hF, hL, hP⟩ := id S4
  obtain ⟨FK0, FK1, FR0⟩ := id hF
  obtain ⟨LK0, LK1, LK2, LK3, LR0, LR1, LR2⟩ := id hL
  have h : aS I I (stA d (P 4)) v k T S N := ⟨hA, hV, fun _ _ => rfl⟩
  have h16 := hV.k16
  have hT1 := hV.tl
  have hS1 := hV.sl
  have hwA : wA N ≤ 30 := by unfold wA; split <;> omega
  intro z
  induction z with
  | zero => intro i y hi hz; omega
  | succ z ih =>
    intro i y hi hz
    refine j_iload_n (pc' := 104) dX5_fingerprint_103 rfl rfl ?_
    refine j_aload_n (pc' := 105) dX5_fingerprint_104 rfl rfl ?_
    refine j_getR (pc' := 108) f_X5_27 (by assumption) (by assumption) dX5_fingerprint_105 rfl ?_
    refine j_getR (pc' := 111) f_X5_121 (by assumption) (by assumption) dX5_fingerprint_108 rfl ?_
    refine j_cVi (pc' := 114) m_X5_130 (c_X1_kept hL (h.lg.1.trans hV.n) (by omega)) (by assumption) (by decide) rfl rfl rfl ⟨Nat.le_of_ble_eq_true rfl, Nat.le_of_ble_eq_true rfl⟩ ⟨Nat.zero_le _, Nat.zero_le _⟩ (Nat.le_of_ble_eq_true rfl) dX5_fingerprint_111 rfl (fun x1 I1 hq => ?_)
    obtain ⟨rfl, rfl⟩ := hq
    first | refine j_icmp_geN' (tgt := 153) (pc' := 117) (by with_reducible rfl) (by with_reducible rfl) (by omega) (by omega) dX5_fingerprint_114 rfl (by decide) (fun c114 => ?_) (fun c114 => ?_) | refine j_icmp_ge (tgt := 153) (pc' := 117) dX5_fingerprint_114 rfl (by decide) (fun c114 => ?_) (fun c114 => ?_)
    ·
      have : i = wA N := by omega
      subst this
      exact hx y
    ·
      refine j_iconst (pc' := 118) (v := nI 0) dX5_fingerprint_117 rfl rfl ?_
      refine j_istore (pc' := 120) (lv' := [_, _, _, _, _]) dX5_fingerprint_118 rfl (by decide) rfl ?_
      refine lp4_X5_fingerprint hs hA hV hNb (by omega) ?_ 4 0 (by omega) (by omega)
      first | refine j_iincN (pc' := 150) (lv' := [_, _, _, _, _]) dX5_fingerprint_147 rfl rfl (by decide) rfl ?_ | refine j_iinc (pc' := 150) (lv' := [_, _, _, _, _]) dX5_fingerprint_147 rfl rfl rfl (by decide) rfl ?_
      refine j_goto (tgt := 103) dX5_fingerprint_150 (by decide) ?_
      exact ih (i + 1) _ (by omega) (by omega)
set_option maxRecDepth 100000 in
set_option maxHeartbeats 4000000 in
theorem c_X5_fingerprint {E : jx_E} {l : Launch} {n : Nat} {kd : jx_K} {R : jx_R} {I : jx_I} {d : Nat} {P : Nat → Nat} {v : Nat → Int32} {k T S N : Nat} (hs : sDk kd R d P) (hA : aSt I (stA d (P 4)) v k T) (hV : VI v k T S N) (hNb : N + 5000 < 2147483000) : jx_C0 E l yX5_fingerprint cX5_fingerprint 5 (some .long) 6 n kd R I [.ref d] (fun r I' => r = some (.long (fpr v k T S N)) ∧ I' = I) := by
  obtain ⟨K0, K6, K7, R0, R1, R2, R4, R5, Rp, hsc, hst, hP6, hinj⟩ := id hs
  have S4 := hs.st (show 4 < 6 from by omega)
  have S5 := hs.st (show 5 < 6 from by omega)
  have K4 := S4.1
  have K5 := S5.1
  obtain ⟨_, QK1, QR0, QR1, QR2, hF, hL, hP⟩ := id S4
  obtain ⟨FK0, FK1, FR0⟩ := id hF
  obtain ⟨LK0, LK1, LK2, LK3, LR0, LR1, LR2⟩ := id hL
  have h : aS I I (stA d (P 4)) v k T S N := ⟨hA, hV, fun _ _ => rfl⟩
  have h16 := hV.k16
  have hT1 := hV.tl
  have hS1 := hV.sl
  refine jx_C0.ofJ RX5 [some (.ref d), none, none, none, none] (by decide) rfl rfl (Nat.le_of_ble_eq_true rfl) rfl ?_
  refine j_ldc2 (pc' := 3) k_322 dX5_fingerprint_0 rfl ?_
  refine j_lstore_n (pc' := 4) (lv' := [_, _, _, _, _]) dX5_fingerprint_3 rfl (by decide) rfl ?_
  refine j_iconst (pc' := 5) (v := nI 0) dX5_fingerprint_4 rfl rfl ?_
  refine j_istore_n (pc' := 6) (lv' := [_, _, _, _, _]) dX5_fingerprint_5 rfl (by decide) rfl ?_
  refine lp1_X5_fingerprint hs hA hV hNb ?_ 6 0 (by omega) (by omega)
  refine j_ldc2 (pc' := 33) k_323 dX5_fingerprint_30 rfl ?_
  refine j_lload_n (pc' := 34) dX5_fingerprint_33 rfl rfl ?_
  refine j_lmul (pc' := 35) dX5_fingerprint_34 rfl ?_
  refine j_aload_n (pc' := 36) dX5_fingerprint_35 rfl rfl ?_
  refine j_cVi (pc' := 39) m_X5_192 (c_X5_points hs hA hV hNb) (by assumption) (by decide) rfl rfl rfl ⟨Nat.le_of_ble_eq_true rfl, Nat.le_of_ble_eq_true rfl⟩ ⟨Nat.zero_le _, Nat.zero_le _⟩ (Nat.le_of_ble_eq_true rfl) dX5_fingerprint_36 rfl (fun x1 I1 hq => ?_)
  obtain ⟨rfl, rfl⟩ := hq
  refine j_i2l (pc' := 40) dX5_fingerprint_39 rfl ?_
  refine j_ladd (pc' := 41) dX5_fingerprint_40 rfl ?_
  refine j_lstore_n (pc' := 42) (lv' := [_, _, _, _, _]) dX5_fingerprint_41 rfl (by decide) rfl ?_
  refine j_iconst (pc' := 43) (v := nI 0) dX5_fingerprint_42 rfl rfl ?_
  refine j_istore_n (pc' := 44) (lv' := [_, _, _, _, _]) dX5_fingerprint_43 rfl (by decide) rfl ?_
  refine lp3_X5_fingerprint hs hA hV hNb (g := fpS (fpL (pl5 v T S) 5 157) (v 0)) (fun y => ?_) (k + 1) 0 none (by omega) (by omega)
  refine j_ldc2 (pc' := 92) k_323 dX5_fingerprint_89 rfl ?_
  refine j_lload_n (pc' := 93) dX5_fingerprint_92 rfl rfl ?_
  refine j_lmul (pc' := 94) dX5_fingerprint_93 rfl ?_
  refine j_aload_n (pc' := 95) dX5_fingerprint_94 rfl rfl ?_
  refine j_cVi (pc' := 98) m_X5_197 (c_X5_events hs hA hV hNb) (by assumption) (by decide) rfl rfl rfl ⟨Nat.le_of_ble_eq_true rfl, Nat.le_of_ble_eq_true rfl⟩ ⟨Nat.zero_le _, Nat.zero_le _⟩ (Nat.le_of_ble_eq_true rfl) dX5_fingerprint_95 rfl (fun x1 I1 hq => ?_)
  obtain ⟨rfl, rfl⟩ := hq
  refine j_i2l (pc' := 99) dX5_fingerprint_98 rfl ?_
  refine j_ladd (pc' := 100) dX5_fingerprint_99 rfl ?_
  refine j_lstore_n (pc' := 101) (lv' := [_, _, _, _, _]) dX5_fingerprint_100 rfl (by decide) rfl ?_
  refine j_iconst (pc' := 102) (v := nI 0) dX5_fingerprint_101 rfl rfl ?_
  refine j_istore_n (pc' := 103) (lv' := [_, _, _, _, _]) dX5_fingerprint_102 rfl (by decide) rfl ?_
  refine lp5_X5_fingerprint hs hA hV hNb (g := fpS (fp2 (tol v) 16 k (fpS (fpL (pl5 v T S) 5 157) (v 0))) (v 9)) (fun y2 => ?_) (wA N + 1) 0 y (by omega) (by omega)
  refine j_lload_n (pc' := 154) dX5_fingerprint_153 rfl rfl ?_
  refine j_retL dX5_fingerprint_154 rfl ?_
  exact ⟨rfl, rfl⟩
set_option maxRecDepth 100000 in
set_option maxHeartbeats 4000000 in
theorem c_X5_meanAck {E : jx_E} {l : Launch} {n : Nat} {kd : jx_K} {R : jx_R} {I : jx_I} {d : Nat} {P : Nat → Nat} {v : Nat → Int32} {k T S N : Nat} (hs : sDk kd R d P) (hA : aSt I (stA d (P 4)) v k T) (hV : VI v k T S N) (hNb : N + 5000 < 2147483000) : jx_C0 E l yX5_meanAck cX5_meanAck 1 (some .float) 1 n kd R I [.ref d] (fun r I' => r = some (.float (fMean v)) ∧ I' = I) := by
  obtain ⟨K0, K6, K7, R0, R1, R2, R4, R5, Rp, hsc, hst, hP6, hinj⟩ := id hs
  have S4 := hs.st (show 4 < 6 from by omega)
  have S5 := hs.st (show 5 < 6 from by omega)
  have K4 := S4.1
  have K5 := S5.1
  obtain ⟨_, QK1, QR0, QR1, QR2, hF, hL, hP⟩ := id S4
  obtain ⟨FK0, FK1, FR0⟩ := id hF
  obtain ⟨LK0, LK1, LK2, LK3, LR0, LR1, LR2⟩ := id hL
  have h : aS I I (stA d (P 4)) v k T S N := ⟨hA, hV, fun _ _ => rfl⟩
  have h16 := hV.k16
  have hT1 := hV.tl
  have hS1 := hV.sl
  refine jx_C0.ofJ RX5 [some (.ref d)] (by decide) rfl rfl (Nat.le_of_ble_eq_true rfl) rfl ?_
  refine j_aload_n (pc' := 1) dX5_meanAck_0 rfl rfl ?_
  refine j_getR (pc' := 4) f_X5_27 (by assumption) (by assumption) dX5_meanAck_1 rfl ?_
  refine j_getIv (pc' := 7) f_X5_137 (by assumption) (by first | (simp (disch := omega) only [jx_upS, jx_upK, jx_upA, h.num, h.tim, h.mod, h.act, h.akt, h.aks, h.f1, h.f2, h.f3, h.f4, h.f5, h.lg.1]; rfl) | rfl) dX5_meanAck_4 rfl ?_
  first | refine j_if_neB' (tgt := 12) (pc' := 10) (by with_reducible rfl) dX5_meanAck_7 rfl (by decide) (fun c7 => ?_) (fun c7 => ?_) | refine j_if_neN' (tgt := 12) (pc' := 10) (by with_reducible rfl) (by omega) dX5_meanAck_7 rfl (by decide) (fun c7 => ?_) (fun c7 => ?_) | refine j_if_ne (tgt := 12) (pc' := 10) dX5_meanAck_7 rfl (by decide) (fun c7 => ?_) (fun c7 => ?_)
  ·
    refine j_aload_n (pc' := 13) dX5_meanAck_12 rfl rfl ?_
    refine j_getR (pc' := 16) f_X5_27 (by assumption) (by assumption) dX5_meanAck_13 rfl ?_
    refine j_getIv (pc' := 19) f_X5_140 (by assumption) (by first | (simp (disch := omega) only [jx_upS, jx_upK, jx_upA, h.num, h.tim, h.mod, h.act, h.akt, h.aks, h.f1, h.f2, h.f3, h.f4, h.f5, h.lg.1]; rfl) | rfl) dX5_meanAck_16 rfl ?_
    refine j_i2f (pc' := 20) dX5_meanAck_19 rfl ?_
    refine j_aload_n (pc' := 21) dX5_meanAck_20 rfl rfl ?_
    refine j_getR (pc' := 24) f_X5_27 (by assumption) (by assumption) dX5_meanAck_21 rfl ?_
    refine j_getIv (pc' := 27) f_X5_137 (by assumption) (by first | (simp (disch := omega) only [jx_upS, jx_upK, jx_upA, h.num, h.tim, h.mod, h.act, h.akt, h.aks, h.f1, h.f2, h.f3, h.f4, h.f5, h.lg.1]; rfl) | rfl) dX5_meanAck_24 rfl ?_
    refine j_i2f (pc' := 28) dX5_meanAck_27 rfl ?_
    refine j_fdiv (pc' := 29) dX5_meanAck_28 rfl (fq_n32 c7) ?_
    refine j_retF dX5_meanAck_29 rfl ?_
    exact ⟨by rw [fMean, if_neg c7], rfl⟩
  ·
    skip
    refine j_fconst0 (pc' := 11) dX5_meanAck_10 rfl ?_
    refine j_retF dX5_meanAck_11 rfl ?_
    exact ⟨by rw [fMean, if_pos c7], rfl⟩
set_option maxRecDepth 100000 in
set_option maxHeartbeats 4000000 in
theorem c_X5_undo {E : jx_E} {l : Launch} {n : Nat} {kd : jx_K} {R : jx_R} {I : jx_I} {d : Nat} {P : Nat → Nat} {v p : Nat → Int32} {q B : Nat} (hs : sDk kd R d P) (h : dM I d P v p q B) : jx_CiR E l yX5_undo cX5_undo 2 (some .int) 0 n kd R (I) [.ref d] (fun r R' I' => r = (if q = 0 then -20009 else nI (q - 1)) ∧ ∃ P', sDk kd R' d P' ∧ dFr d I I' ∧ rFr d R R' ∧ (q = 0 → dM I' d P' v p q B) ∧ (¬ q = 0 → dM I' d P' (unV p v (q - 1) 1080) p (q - 1) B)) := by
  obtain ⟨K0, K6, K7, R0, R1, R2, R4, R5, Rp, hsc, hst, hP6, hinj⟩ := id hs
  have S4 := hs.st (show 4 < 6 from by omega)
  have S5 := hs.st (show 5 < 6 from by omega)
  have K4 := S4.1
  have K5 := S5.1
  obtain ⟨h3, hq4, h4, hp⟩ := id h
  have Kp := fun j (hj : j < 4) => (hs.st (show j < 6 from by omega)).1
  refine jx_CtR.ofJ RX5 [some (.ref d), none] (by decide) rfl rfl (Nat.le_of_ble_eq_true rfl) rfl ?_
  refine j_aload_n (pc' := 1) dX5_undo_0 rfl rfl ?_
  refine j_getIv (pc' := 4) f_X5_182 (by assumption) (by first | (simp (disch := omega) only [jx_upS, jx_upK, jx_upA, h3]; rfl) | rfl) dX5_undo_1 rfl ?_
  first | refine j_if_gtN' (tgt := 11) (pc' := 7) (by with_reducible rfl) (by omega) dX5_undo_4 rfl (by decide) (fun c4 => ?_) (fun c4 => ?_) | refine j_if_gt (tgt := 11) (pc' := 7) dX5_undo_4 rfl (by decide) (fun c4 => ?_) (fun c4 => ?_)
  ·
    have rq := Rp (q - 1) (by omega)
    refine j_aload_n (pc' := 12) dX5_undo_11 rfl rfl ?_
    refine j_dup (pc' := 13) dX5_undo_12 rfl rfl ?_
    refine j_getIv (pc' := 16) f_X5_182 (by assumption) (by first | (simp (disch := omega) only [jx_upS, jx_upK, jx_upA, h3]; rfl) | rfl) dX5_undo_13 rfl ?_
    refine j_iconst (pc' := 17) (v := nI 1) dX5_undo_16 rfl rfl ?_
    first | refine j_isubN' (pc' := 18) (by with_reducible rfl) (by with_reducible rfl) (by omega) dX5_undo_17 rfl ?_ | refine j_isub (pc' := 18) dX5_undo_17 rfl ?_
    refine j_putI (pc' := 21) f_X5_182 (by assumption) rfl rfl dX5_undo_18 rfl ?_
    refine j_aload_n (pc' := 22) dX5_undo_21 rfl rfl ?_
    refine j_getR (pc' := 25) f_X5_27 (by assumption) (by first | assumption | (simp (disch := omega) only [jx_upRS, jx_upRK, jx_upRA]; first | done | assumption)) dX5_undo_22 rfl ?_
    refine j_astore_n (pc' := 26) (lv' := [_, _]) dX5_undo_25 rfl (by decide) rfl ?_
    refine j_aload_n (pc' := 27) dX5_undo_26 rfl rfl ?_
    refine j_aload_n (pc' := 28) dX5_undo_27 rfl rfl ?_
    refine j_getR (pc' := 31) f_X5_22 (by assumption) (by first | assumption | (simp (disch := omega) only [jx_upRS, jx_upRK, jx_upRA]; first | done | assumption)) dX5_undo_28 rfl ?_
    refine j_aload_n (pc' := 32) dX5_undo_31 rfl rfl ?_
    refine j_getIv (pc' := 35) f_X5_182 (by assumption) (by first | (simp (disch := omega) only [jx_upS, jx_upK, jx_upA, h3]; rfl) | rfl) dX5_undo_32 rfl ?_
    first | refine j_aaldP (pc' := 36) (by assumption) rfl (by omega) (by omega) (by first | assumption | (simp (disch := omega) only [h3]; done)) dX5_undo_35 rfl ?_ | refine j_aaldS (pc' := 36) (by assumption) rfl (by omega) (by omega) (by first | assumption | (simp (disch := omega) only [jx_upRS, jx_upRK, jx_upRA]; first | done | assumption)) dX5_undo_35 rfl ?_
    refine j_putR (pc' := 39) f_X5_27 (by assumption) rfl rfl dX5_undo_36 rfl ?_
    refine j_aload_n (pc' := 40) dX5_undo_39 rfl rfl ?_
    refine j_getR (pc' := 43) f_X5_22 (by assumption) (by first | assumption | (simp (disch := omega) only [jx_upRS, jx_upRK, jx_upRA]; first | done | assumption)) dX5_undo_40 rfl ?_
    refine j_aload_n (pc' := 44) dX5_undo_43 rfl rfl ?_
    refine j_getIv (pc' := 47) f_X5_182 (by assumption) (by first | (simp (disch := omega) only [jx_upS, jx_upK, jx_upA, h3]; rfl) | rfl) dX5_undo_44 rfl ?_
    refine j_aload_n (pc' := 48) dX5_undo_47 rfl rfl ?_
    refine j_aastS (pc' := 49) (by assumption) rfl (by omega) (by omega) (by assumption) dX5_undo_48 rfl ?_
    refine j_aload_n (pc' := 50) dX5_undo_49 rfl rfl ?_
    refine j_getIv (pc' := 53) f_X5_182 (by assumption) (by first | (simp (disch := omega) only [jx_upS, jx_upK, jx_upA, h3]; rfl) | rfl) dX5_undo_50 rfl ?_
    refine j_retiR dX5_undo_53 rfl (by first | rfl | exact bi_n _) ?_
    have fr : ∀ i z, stA d (P i) ≤ z → z < stA d (P i) + 56 → jx_up I d 3 (nI (q - 1)) z = I z := fun i z a b => by have := hs.lo (j := i); funext y; exact jx_upA (by omega)
    refine ⟨by rw [if_neg (by omega)], fun j => P (if j = 4 then q - 1 else if j = q - 1 then 4 else j), hs.perm (fun j => if j = 4 then q - 1 else if j = q - 1 then 4 else j) (fun j hj => by (repeat' split) <;> omega) (fun i j hi hj hh => by revert hh; (repeat' split) <;> omega) (fun z h1 h2 => by funext y; simp (disch := omega) only [jx_upRS, jx_upRK, jx_upRA]) (by simp (disch := omega) only [jx_upRS, jx_upRK, jx_upRA]) (by simp (disch := omega) only [jx_upRS, jx_upRK, jx_upRA]) (by simp (disch := omega) only [jx_upRS, jx_upRK, jx_upRA]) (by rw [if_pos rfl]; simp (disch := omega) only [jx_upRS, jx_upRK, jx_upRA]) (by rw [if_neg (by omega), if_neg (by omega)]; simp (disch := omega) only [jx_upRS, jx_upRK, jx_upRA]; exact R5) (fun j hj => ?_), fun z h1 h2 h3 => funext fun y => jx_upA h1, fun z h1 h2 => by funext y; simp (disch := omega) only [jx_upRS, jx_upRK, jx_upRA], fun z => absurd z (by omega), fun _ => ⟨jx_upS, by omega, ?_, fun j hj => ?_⟩⟩
    · rw [if_neg (by omega)]
      by_cases e : j = q - 1
      · subst e; rw [if_pos rfl, jx_upRS]
      · rw [if_neg e]; simp (disch := omega) only [jx_upRS, jx_upRK, jx_upRA]; exact Rp j hj
    · dsimp only; rw [if_pos rfl]
      exact ((hp (q - 1) (by omega)).fr (fr _)).cg (fun z hz => by unfold unV; rw [if_pos hz]; rfl)
    · dsimp only
      rw [if_neg (by omega), if_neg (by omega)]
      exact (hp j (by omega)).fr (fr _)
  ·
    refine j_sipush (pc' := 10) (v := -20009) dX5_undo_7 rfl rfl ?_
    refine j_retiR dX5_undo_10 rfl (by first | rfl | exact bi_n _) ?_
    have e0 : q = 0 := by omega
    exact ⟨by rw [if_pos e0], P, hs, dFr.r, rFr.r, fun _ => h, fun z => absurd e0 z⟩

def scI (d : Nat) (I : jx_I) (t : Nat → Int32) (L : Nat) : Prop := I (d + 1) 4 = nI L ∧ I (d + 1 + 1) = t ∧ L ≤ 80
theorem ty_c : ∀ c, c < 127 → ((nI c).toUInt32 % 65536).toInt32 = nI c := by decide
theorem ty_n : ∀ c, c < 127 → vp_nar .char (nI c) = nI c := by
  intro c hc
  show ((nI c).toUInt32.toUInt16.toUInt32.toInt32) = nI c
  revert c
  decide
set_option maxRecDepth 100000 in
set_option maxHeartbeats 4000000 in
theorem c_X5_type {E : jx_E} {l : Launch} {n : Nat} {kd : jx_K} {R : jx_R} {I : jx_I} {d : Nat} {P : Nat → Nat} {t : Nat → Int32} {L : Nat} {x : Int32} (hs : sDk kd R d P) (hS : scI d I t L) : jx_Ci E l yX5_type cX5_type 2 (some .int) 2 n kd R (I) [.ref d, .int x] (fun r I' => r = (if decide (nI 32 ≤ x ∧ x ≤ nI 126) = true then if L = 80 then -20003 else nI (L + 1) else -20001) ∧ (if decide (nI 32 ≤ x ∧ x ≤ nI 126) = true ∧ ¬ L = 80 then scI d I' (upd t L x) (L + 1) else scI d I' t L) ∧ ∀ z, z ≤ d ∨ d + 5 < z → I' z = I z) := by
  obtain ⟨K0, K6, K7, R0, R1, R2, R4, R5, Rp, hsc, hst, hP6, hinj⟩ := id hs
  have S4 := hs.st (show 4 < 6 from by omega)
  have S5 := hs.st (show 5 < 6 from by omega)
  have K4 := S4.1
  have K5 := S5.1
  obtain ⟨hS1, hS2, hS3⟩ := id hS
  have hsc0 := hsc.1
  refine jx_C0.ofJ RX5 [some (.ref d), some (.int x)] (by decide) rfl rfl (Nat.le_of_ble_eq_true rfl) rfl ?_
  refine j_iload_n (pc' := 1) dX5_type_0 rfl rfl ?_
  refine j_bipush (pc' := 3) (v := nI 32) dX5_type_1 rfl rfl ?_
  refine j_bipush (pc' := 5) (v := nI 126) dX5_type_3 rfl rfl ?_
  refine j_cSi (pc' := 8) m_X5_59 (c_X5_isIn _ _ _ _ _ _ _ _ _) rfl rfl ⟨Nat.le_of_ble_eq_true rfl, Nat.le_of_ble_eq_true rfl⟩ ⟨Nat.zero_le _, Nat.zero_le _⟩ (Nat.le_of_ble_eq_true rfl) dX5_type_5 rfl (fun x1 I1 hq => ?_)
  obtain ⟨rfl, rfl⟩ := hq
  first | refine j_if_neB' (tgt := 15) (pc' := 11) (by with_reducible rfl) dX5_type_8 rfl (by decide) (fun c8 => ?_) (fun c8 => ?_) | refine j_if_neN' (tgt := 15) (pc' := 11) (by with_reducible rfl) (by omega) dX5_type_8 rfl (by decide) (fun c8 => ?_) (fun c8 => ?_) | refine j_if_ne (tgt := 15) (pc' := 11) dX5_type_8 rfl (by decide) (fun c8 => ?_) (fun c8 => ?_)
  ·
    have hok := c8
    obtain ⟨c, hc0, hc1, rfl⟩ := in_nat c8 (by omega) (by omega)
    refine j_aload_n (pc' := 16) dX5_type_15 rfl rfl ?_
    refine j_eqI (cI_eta _ (d + 1)).symm ?_
    refine j_getR (pc' := 19) f_X5_10 (by assumption) (by assumption) dX5_type_16 rfl ?_
    refine j_iload_n (pc' := 20) dX5_type_19 rfl rfl ?_
    refine j_i2c (pc' := 21) dX5_type_20 rfl ?_
    rw [ty_c c (by omega)]
    refine j_cVi (pc' := 24) m_X5_158 (c_X3_append hsc hS1 hS3 (ty_n c (by omega))) (by assumption) (by decide) rfl rfl rfl ⟨Nat.le_of_ble_eq_true rfl, Nat.le_of_ble_eq_true rfl⟩ ⟨Nat.zero_le _, Nat.zero_le _⟩ (Nat.le_of_ble_eq_true rfl) dX5_type_21 rfl (fun x1 I1 hq => ?_)
    obtain ⟨rfl, rfl⟩ := hq
    refine j_reti dX5_type_24 rfl (by first | rfl | exact bi_n _) ?_
    refine ⟨by rw [if_pos hok], ?_, ?_⟩
    · by_cases e : L = 80
      · rw [if_neg (fun z => z.2 e), if_pos e, cI_eta]; exact hS
      · rw [if_pos ⟨hok, e⟩, if_neg e]
        exact ⟨by rw [cI_0, pk_us], by rw [cI_1, hS2], by omega⟩
    · intro z hz
      by_cases e : L = 80
      · rw [if_pos e, cI_eta]
      · rw [if_neg e, cI_ne (by omega)]
  ·
    refine j_sipush (pc' := 14) (v := -20001) dX5_type_11 rfl rfl ?_
    refine j_reti dX5_type_14 rfl (by first | rfl | exact bi_n _) ?_
    exact ⟨by rw [if_neg (by rw [c8]; decide)], by rw [if_neg (fun z => by rw [c8] at z; exact absurd z.1 Bool.false_ne_true)]; exact hS, fun _ _ => rfl⟩
