def fpS (h : Int64) (x : Int32) : Int64 := 31 * h + x.toInt64
def fpL (f : Nat → Int32) : Nat → Int64 → Int64
  | 0, h => h
  | i + 1, h => fpS (fpL f i h) (f i)
def fp2 (g : Nat → Nat → Int32) (w : Nat) : Nat → Int64 → Int64
  | 0, h => h
  | i + 1, h => fpL (g i) w (fp2 g w i h)
def pl5 (v : Nat → Int32) (T S j : Nat) : Int32 := if j = 0 then v 1 else if j = 1 then v 2 else if j = 2 then v 3 else if j = 3 then rsum v T S T (nI 0) else v 8
def tol (v : Nat → Int32) (i w : Nat) : Int32 := if w < 15 then v (176 + 56 * i + w) else sWhy v i
def fpr (v : Nat → Int32) (k T S N : Nat) : Int64 := fp2 (evOf v N) 3 (wA N) (fpS (fp2 (tol v) 16 k (fpS (fpL (pl5 v T S) 5 157) (v 0))) (v 9))
theorem fpL_s {f : Nat → Int32} {i : Nat} {h : Int64} {x : Int32} (e : f i = x) : 31 * fpL f i h + x.toInt64 = fpL f (i + 1) h := by rw [fpL, fpS, e]

set_option maxRecDepth 100000 in
set_option maxHeartbeats 4000000 in
theorem lp1_X6_fingerprint {E : jx_E} {l : Launch} {n : Nat} {kd : jx_K} {R : jx_R} {I0 : jx_I} {m : Nat} {F v a p o t c : Nat → Int32} {Q : jx_Q} {k T S N : Nat} (hs : sMd kd R m) (hv : VI v k T S N) (hNb : N + 5000 < 2147483000) (hx : jx_J E l cX6_fingerprint 5 (some .long) RX6 false (jx_rm 4) 0 0 (Q) 0 0 n kd R (mI I0 m F v a p o t c) 85 [some (.ref m), some (.long (fpL (pl5 v T S) 5 157)), none, some (.int (nI 5)), none] []) : ∀ (z j : Nat), j ≤ 5 → z + j = 6 → jx_J E l cX6_fingerprint 5 (some .long) RX6 false (jx_rm 4) 0 0 (Q) 0 0 n kd R (mI I0 m F v a p o t c) 6 [some (.ref m), some (.long (fpL (pl5 v T S) j 157)), none, some (.int (nI j)), none] [] := by
  obtain ⟨K0, K1, K2, K3, K4, K5, K6, R0, R1, R2, R4, R6, R10⟩ := id hs
  intro z
  induction z with
  | zero => intro j hj hz; omega
  | succ z ih =>
    intro j hj hz
    refine j_iload_n (pc' := 7) dX6_fingerprint_6 rfl rfl ?_
    refine j_iconst (pc' := 8) (v := nI 5) dX6_fingerprint_7 rfl rfl ?_
    first | refine j_icmp_geN' (tgt := 85) (pc' := 11) (by with_reducible rfl) (by with_reducible rfl) (by omega) (by omega) dX6_fingerprint_8 rfl (by decide) (fun c8 => ?_) (fun c8 => ?_) | refine j_icmp_ge (tgt := 85) (pc' := 11) dX6_fingerprint_8 rfl (by decide) (fun c8 => ?_) (fun c8 => ?_)
    ·
      have : j = 5 := by omega
      subst this
      exact hx
    ·
      refine j_ldc2 (pc' := 14) k_770 dX6_fingerprint_11 rfl ?_
      refine j_lload_n (pc' := 15) dX6_fingerprint_14 rfl rfl ?_
      refine j_lmul (pc' := 16) dX6_fingerprint_15 rfl ?_
      refine j_iload_n (pc' := 17) dX6_fingerprint_16 rfl rfl ?_
      first | refine j_if_neB' (tgt := 29) (pc' := 20) (by with_reducible rfl) dX6_fingerprint_17 rfl (by decide) (fun c17 => ?_) (fun c17 => ?_) | refine j_if_neN' (tgt := 29) (pc' := 20) (by with_reducible rfl) (by omega) dX6_fingerprint_17 rfl (by decide) (fun c17 => ?_) (fun c17 => ?_) | refine j_if_ne (tgt := 29) (pc' := 20) dX6_fingerprint_17 rfl (by decide) (fun c17 => ?_) (fun c17 => ?_)
      ·
        refine j_iload_n (pc' := 30) dX6_fingerprint_29 rfl rfl ?_
        refine j_iconst (pc' := 31) (v := nI 1) dX6_fingerprint_30 rfl rfl ?_
        first | refine j_icmp_neN' (tgt := 43) (pc' := 34) (by with_reducible rfl) (by with_reducible rfl) (by omega) (by omega) dX6_fingerprint_31 rfl (by decide) (fun c31 => ?_) (fun c31 => ?_) | refine j_icmp_ne (tgt := 43) (pc' := 34) dX6_fingerprint_31 rfl (by decide) (fun c31 => ?_) (fun c31 => ?_)
        ·
          refine j_iload_n (pc' := 44) dX6_fingerprint_43 rfl rfl ?_
          refine j_iconst (pc' := 45) (v := nI 2) dX6_fingerprint_44 rfl rfl ?_
          first | refine j_icmp_neN' (tgt := 57) (pc' := 48) (by with_reducible rfl) (by with_reducible rfl) (by omega) (by omega) dX6_fingerprint_45 rfl (by decide) (fun c45 => ?_) (fun c45 => ?_) | refine j_icmp_ne (tgt := 57) (pc' := 48) dX6_fingerprint_45 rfl (by decide) (fun c45 => ?_) (fun c45 => ?_)
          ·
            refine j_iload_n (pc' := 58) dX6_fingerprint_57 rfl rfl ?_
            refine j_iconst (pc' := 59) (v := nI 3) dX6_fingerprint_58 rfl rfl ?_
            first | refine j_icmp_neN' (tgt := 69) (pc' := 62) (by with_reducible rfl) (by with_reducible rfl) (by omega) (by omega) dX6_fingerprint_59 rfl (by decide) (fun c59 => ?_) (fun c59 => ?_) | refine j_icmp_ne (tgt := 69) (pc' := 62) dX6_fingerprint_59 rfl (by decide) (fun c59 => ?_) (fun c59 => ?_)
            ·
              refine j_aload_n (pc' := 70) dX6_fingerprint_69 rfl rfl ?_
              refine j_getR (pc' := 73) f_X6_7 (by assumption) (by assumption) dX6_fingerprint_70 rfl ?_
              refine j_bipush (pc' := 75) (v := nI 8) dX6_fingerprint_73 rfl rfl ?_
              refine j_ialdv (pc' := 76) (by assumption) rfl (by omega) (by omega) (by first | (simp (disch := omega) only [jx_upS, jx_upK, jx_upA, mI_0, mI_1, mI_2, mI_3, mI_4, mI_5, mI_6, pk_us, pk_un]; rfl) | rfl) dX6_fingerprint_75 rfl ?_
              refine j_i2l (pc' := 77) dX6_fingerprint_76 rfl ?_
              refine j_ladd (pc' := 78) dX6_fingerprint_77 rfl ?_
              refine j_lstore_n (pc' := 79) (lv' := [_, _, _, _, _]) dX6_fingerprint_78 rfl (by decide) rfl ?_
              first | refine j_iincN (pc' := 82) (lv' := [_, _, _, _, _]) dX6_fingerprint_79 rfl rfl (by decide) rfl ?_ | refine j_iinc (pc' := 82) (lv' := [_, _, _, _, _]) dX6_fingerprint_79 rfl rfl rfl (by decide) rfl ?_
              refine j_goto (tgt := 6) dX6_fingerprint_82 (by decide) ?_
              have e : pl5 v T S j = v 8 := by rw [pl5, if_neg c17, if_neg c31, if_neg c45, if_neg c59]
              rw [fpL_s e]
              exact ih (j + 1) (by omega) (by omega)
            ·
              skip
              refine j_aload_n (pc' := 63) dX6_fingerprint_62 rfl rfl ?_
              refine j_cVi (pc' := 66) m_X6_103 (c_X6_rate hs hv.t hv.s hv.tl hv.sl) (by assumption) (by decide) rfl rfl rfl ⟨Nat.le_of_ble_eq_true rfl, Nat.le_of_ble_eq_true rfl⟩ ⟨Nat.zero_le _, Nat.zero_le _⟩ (Nat.le_of_ble_eq_true rfl) dX6_fingerprint_63 rfl (fun x1 I1 hq => ?_)
              obtain ⟨rfl, rfl⟩ := hq
              refine j_goto (tgt := 76) dX6_fingerprint_66 (by decide) ?_
              refine j_i2l (pc' := 77) dX6_fingerprint_76 rfl ?_
              refine j_ladd (pc' := 78) dX6_fingerprint_77 rfl ?_
              refine j_lstore_n (pc' := 79) (lv' := [_, _, _, _, _]) dX6_fingerprint_78 rfl (by decide) rfl ?_
              first | refine j_iincN (pc' := 82) (lv' := [_, _, _, _, _]) dX6_fingerprint_79 rfl rfl (by decide) rfl ?_ | refine j_iinc (pc' := 82) (lv' := [_, _, _, _, _]) dX6_fingerprint_79 rfl rfl rfl (by decide) rfl ?_
              refine j_goto (tgt := 6) dX6_fingerprint_82 (by decide) ?_
              have e : pl5 v T S j = rsum v T S T (nI 0) := by rw [pl5, if_neg c17, if_neg c31, if_neg c45, if_pos c59]
              rw [fpL_s e]
              exact ih (j + 1) (by omega) (by omega)
          ·
            skip
            refine j_aload_n (pc' := 49) dX6_fingerprint_48 rfl rfl ?_
            refine j_getR (pc' := 52) f_X6_7 (by assumption) (by assumption) dX6_fingerprint_49 rfl ?_
            refine j_iconst (pc' := 53) (v := nI 3) dX6_fingerprint_52 rfl rfl ?_
            refine j_ialdv (pc' := 54) (by assumption) rfl (by omega) (by omega) (by first | (simp (disch := omega) only [jx_upS, jx_upK, jx_upA, mI_0, mI_1, mI_2, mI_3, mI_4, mI_5, mI_6, pk_us, pk_un]; rfl) | rfl) dX6_fingerprint_53 rfl ?_
            refine j_goto (tgt := 76) dX6_fingerprint_54 (by decide) ?_
            refine j_i2l (pc' := 77) dX6_fingerprint_76 rfl ?_
            refine j_ladd (pc' := 78) dX6_fingerprint_77 rfl ?_
            refine j_lstore_n (pc' := 79) (lv' := [_, _, _, _, _]) dX6_fingerprint_78 rfl (by decide) rfl ?_
            first | refine j_iincN (pc' := 82) (lv' := [_, _, _, _, _]) dX6_fingerprint_79 rfl rfl (by decide) rfl ?_ | refine j_iinc (pc' := 82) (lv' := [_, _, _, _, _]) dX6_fingerprint_79 rfl rfl rfl (by decide) rfl ?_
            refine j_goto (tgt := 6) dX6_fingerprint_82 (by decide) ?_
            have e : pl5 v T S j = v 3 := by rw [pl5, if_neg c17, if_neg c31, if_pos c45]
            rw [fpL_s e]
            exact ih (j + 1) (by omega) (by omega)
        ·
          skip
          refine j_aload_n (pc' := 35) dX6_fingerprint_34 rfl rfl ?_
          refine j_getR (pc' := 38) f_X6_7 (by assumption) (by assumption) dX6_fingerprint_35 rfl ?_
          refine j_iconst (pc' := 39) (v := nI 2) dX6_fingerprint_38 rfl rfl ?_
          refine j_ialdv (pc' := 40) (by assumption) rfl (by omega) (by omega) (by first | (simp (disch := omega) only [jx_upS, jx_upK, jx_upA, mI_0, mI_1, mI_2, mI_3, mI_4, mI_5, mI_6, pk_us, pk_un]; rfl) | rfl) dX6_fingerprint_39 rfl ?_
          refine j_goto (tgt := 76) dX6_fingerprint_40 (by decide) ?_
          refine j_i2l (pc' := 77) dX6_fingerprint_76 rfl ?_
          refine j_ladd (pc' := 78) dX6_fingerprint_77 rfl ?_
          refine j_lstore_n (pc' := 79) (lv' := [_, _, _, _, _]) dX6_fingerprint_78 rfl (by decide) rfl ?_
          first | refine j_iincN (pc' := 82) (lv' := [_, _, _, _, _]) dX6_fingerprint_79 rfl rfl (by decide) rfl ?_ | refine j_iinc (pc' := 82) (lv' := [_, _, _, _, _]) dX6_fingerprint_79 rfl rfl rfl (by decide) rfl ?_
          refine j_goto (tgt := 6) dX6_fingerprint_82 (by decide) ?_
          have e : pl5 v T S j = v 2 := by rw [pl5, if_neg c17, if_pos c31]
          rw [fpL_s e]
          exact ih (j + 1) (by omega) (by omega)
      ·
        skip
        refine j_aload_n (pc' := 21) dX6_fingerprint_20 rfl rfl ?_
        refine j_getR (pc' := 24) f_X6_7 (by assumption) (by assumption) dX6_fingerprint_21 rfl ?_
        refine j_iconst (pc' := 25) (v := nI 1) dX6_fingerprint_24 rfl rfl ?_
        refine j_ialdv (pc' := 26) (by assumption) rfl (by omega) (by omega) (by first | (simp (disch := omega) only [jx_upS, jx_upK, jx_upA, mI_0, mI_1, mI_2, mI_3, mI_4, mI_5, mI_6, pk_us, pk_un]; rfl) | rfl) dX6_fingerprint_25 rfl ?_
        refine j_goto (tgt := 76) dX6_fingerprint_26 (by decide) ?_
        refine j_i2l (pc' := 77) dX6_fingerprint_76 rfl ?_
        refine j_ladd (pc' := 78) dX6_fingerprint_77 rfl ?_
        refine j_lstore_n (pc' := 79) (lv' := [_, _, _, _, _]) dX6_fingerprint_78 rfl (by decide) rfl ?_
        first | refine j_iincN (pc' := 82) (lv' := [_, _, _, _, _]) dX6_fingerprint_79 rfl rfl (by decide) rfl ?_ | refine j_iinc (pc' := 82) (lv' := [_, _, _, _, _]) dX6_fingerprint_79 rfl rfl rfl (by decide) rfl ?_
        refine j_goto (tgt := 6) dX6_fingerprint_82 (by decide) ?_
        have e : pl5 v T S j = v 1 := by rw [pl5, if_pos c17]
        rw [fpL_s e]
        exact ih (j + 1) (by omega) (by omega)
set_option maxRecDepth 100000 in
set_option maxHeartbeats 4000000 in
theorem lp2_X6_fingerprint {E : jx_E} {l : Launch} {n : Nat} {kd : jx_K} {R : jx_R} {I0 : jx_I} {m : Nat} {F v a p o t c : Nat → Int32} {Q : jx_Q} {k T S N i : Nat} {h : Int64} {rk : Nat → Nat} (hs : sMd kd R m) (hv : VI v k T S N) (hNb : N + 5000 < 2147483000) (hrk : RK v k rk) (hi : i < k) (hx : jx_J E l cX6_fingerprint 5 (some .long) RX6 false (jx_rm 4) 0 0 (Q) 0 0 n kd R (mI I0 m F v a p o t c) 142 [some (.ref m), some (.long (fpL (tol v i) 16 h)), none, some (.int (nI i)), some (.int (nI 16))] []) : ∀ (z j : Nat), j ≤ 16 → z + j = 17 → jx_J E l cX6_fingerprint 5 (some .long) RX6 false (jx_rm 4) 0 0 (Q) 0 0 n kd R (mI I0 m F v a p o t c) 114 [some (.ref m), some (.long (fpL (tol v i) j h)), none, some (.int (nI i)), some (.int (nI j))] [] := by
  obtain ⟨K0, K1, K2, K3, K4, K5, K6, R0, R1, R2, R4, R6, R10⟩ := id hs
  have h16 := hv.k16
  intro z
  induction z with
  | zero => intro j hj hz; omega
  | succ z ih =>
    intro j hj hz
    refine j_iload (pc' := 116) dX6_fingerprint_114 rfl rfl ?_
    refine j_bipush (pc' := 118) (v := nI 16) dX6_fingerprint_116 rfl rfl ?_
    first | refine j_icmp_geN' (tgt := 142) (pc' := 121) (by with_reducible rfl) (by with_reducible rfl) (by omega) (by omega) dX6_fingerprint_118 rfl (by decide) (fun c118 => ?_) (fun c118 => ?_) | refine j_icmp_ge (tgt := 142) (pc' := 121) dX6_fingerprint_118 rfl (by decide) (fun c118 => ?_) (fun c118 => ?_)
    ·
      have : j = 16 := by omega
      subst this
      exact hx
    ·
      refine j_ldc2 (pc' := 124) k_770 dX6_fingerprint_121 rfl ?_
      refine j_lload_n (pc' := 125) dX6_fingerprint_124 rfl rfl ?_
      refine j_lmul (pc' := 126) dX6_fingerprint_125 rfl ?_
      refine j_aload_n (pc' := 127) dX6_fingerprint_126 rfl rfl ?_
      refine j_iload_n (pc' := 128) dX6_fingerprint_127 rfl rfl ?_
      refine j_iload (pc' := 130) dX6_fingerprint_128 rfl rfl ?_
      refine j_cVi (pc' := 133) m_X6_87 (c_X6_told hs hv.k16 hrk hi (by omega)) (by assumption) (by decide) rfl rfl rfl ⟨Nat.le_of_ble_eq_true rfl, Nat.le_of_ble_eq_true rfl⟩ ⟨Nat.zero_le _, Nat.zero_le _⟩ (Nat.le_of_ble_eq_true rfl) dX6_fingerprint_130 rfl (fun x1 I1 hq => ?_)
      obtain ⟨rfl, rfl⟩ := hq
      refine j_i2l (pc' := 134) dX6_fingerprint_133 rfl ?_
      refine j_ladd (pc' := 135) dX6_fingerprint_134 rfl ?_
      refine j_lstore_n (pc' := 136) (lv' := [_, _, _, _, _]) dX6_fingerprint_135 rfl (by decide) rfl ?_
      first | refine j_iincN (pc' := 139) (lv' := [_, _, _, _, _]) dX6_fingerprint_136 rfl rfl (by decide) rfl ?_ | refine j_iinc (pc' := 139) (lv' := [_, _, _, _, _]) dX6_fingerprint_136 rfl rfl rfl (by decide) rfl ?_
      refine j_goto (tgt := 114) dX6_fingerprint_139 (by decide) ?_
      rw [fpL_s (f := tol v i) (i := j) (x := if j < 15 then v (176 + 56 * i + j) else sWhy v i) rfl]
      exact ih (j + 1) (by omega) (by omega)
set_option maxRecDepth 100000 in
set_option maxHeartbeats 4000000 in
theorem lp3_X6_fingerprint {E : jx_E} {l : Launch} {n : Nat} {kd : jx_K} {R : jx_R} {I0 : jx_I} {m : Nat} {F v a p o t c : Nat → Int32} {Q : jx_Q} {k T S N : Nat} {h : Int64} {rk : Nat → Nat} (hs : sMd kd R m) (hv : VI v k T S N) (hNb : N + 5000 < 2147483000) (hrk : RK v k rk) (hx : ∀ y, jx_J E l cX6_fingerprint 5 (some .long) RX6 false (jx_rm 4) 0 0 (Q) 0 0 n kd R (mI I0 m F v a p o t c) 148 [some (.ref m), some (.long (fp2 (tol v) 16 k h)), none, some (.int (nI k)), y] []) : ∀ (z i : Nat) (y : Option Value), i ≤ k → z + i = k + 1 → jx_J E l cX6_fingerprint 5 (some .long) RX6 false (jx_rm 4) 0 0 (Q) 0 0 n kd R (mI I0 m F v a p o t c) 101 [some (.ref m), some (.long (fp2 (tol v) 16 i h)), none, some (.int (nI i)), y] [] := by
  obtain ⟨K0, K1, K2, K3, K4, K5, K6, R0, R1, R2, R4, R6, R10⟩ := id hs
  have h16 := hv.k16
  intro z
  induction z with
  | zero => intro i y hi hz; omega
  | succ z ih =>
    intro i y hi hz
    refine j_iload_n (pc' := 102) dX6_fingerprint_101 rfl rfl ?_
    refine j_aload_n (pc' := 103) dX6_fingerprint_102 rfl rfl ?_
    refine j_getR (pc' := 106) f_X6_7 (by assumption) (by assumption) dX6_fingerprint_103 rfl ?_
    refine j_iconst (pc' := 107) (v := nI 0) dX6_fingerprint_106 rfl rfl ?_
    refine j_ialdv (pc' := 108) (by assumption) rfl (by omega) (by omega) (by first | (simp (disch := omega) only [jx_upS, jx_upK, jx_upA, mI_0, mI_1, mI_2, mI_3, mI_4, mI_5, mI_6, pk_us, pk_un, hv.z]; rfl) | rfl) dX6_fingerprint_107 rfl ?_
    first | refine j_icmp_geN' (tgt := 148) (pc' := 111) (by with_reducible rfl) (by with_reducible rfl) (by omega) (by omega) dX6_fingerprint_108 rfl (by decide) (fun c108 => ?_) (fun c108 => ?_) | refine j_icmp_ge (tgt := 148) (pc' := 111) dX6_fingerprint_108 rfl (by decide) (fun c108 => ?_) (fun c108 => ?_)
    ·
      have : i = k := by omega
      subst this
      exact hx y
    ·
      refine j_iconst (pc' := 112) (v := nI 0) dX6_fingerprint_111 rfl rfl ?_
      refine j_istore (pc' := 114) (lv' := [_, _, _, _, _]) dX6_fingerprint_112 rfl (by decide) rfl ?_
      refine lp2_X6_fingerprint hs hv hNb hrk (by omega) ?_ 17 0 (by omega) (by omega)
      first | refine j_iincN (pc' := 145) (lv' := [_, _, _, _, _]) dX6_fingerprint_142 rfl rfl (by decide) rfl ?_ | refine j_iinc (pc' := 145) (lv' := [_, _, _, _, _]) dX6_fingerprint_142 rfl rfl rfl (by decide) rfl ?_
      refine j_goto (tgt := 101) dX6_fingerprint_145 (by decide) ?_
      exact ih (i + 1) _ (by omega) (by omega)
set_option maxRecDepth 100000 in
set_option maxHeartbeats 4000000 in
theorem lp4_X6_fingerprint {E : jx_E} {l : Launch} {n : Nat} {kd : jx_K} {R : jx_R} {I0 : jx_I} {m : Nat} {F v a p o t c : Nat → Int32} {Q : jx_Q} {k T S N i : Nat} {h : Int64} (hs : sMd kd R m) (hv : VI v k T S N) (hNb : N + 5000 < 2147483000) (hi : i < 30) (hx : jx_J E l cX6_fingerprint 5 (some .long) RX6 false (jx_rm 4) 0 0 (Q) 0 0 n kd R (mI I0 m F v a p o t c) 212 [some (.ref m), some (.long (fpL (evOf v N i) 3 h)), none, some (.int (nI i)), some (.int (nI 3))] []) : ∀ (z j : Nat), j ≤ 3 → z + j = 4 → jx_J E l cX6_fingerprint 5 (some .long) RX6 false (jx_rm 4) 0 0 (Q) 0 0 n kd R (mI I0 m F v a p o t c) 185 [some (.ref m), some (.long (fpL (evOf v N i) j h)), none, some (.int (nI i)), some (.int (nI j))] [] := by
  obtain ⟨K0, K1, K2, K3, K4, K5, K6, R0, R1, R2, R4, R6, R10⟩ := id hs
  intro z
  induction z with
  | zero => intro j hj hz; omega
  | succ z ih =>
    intro j hj hz
    refine j_iload (pc' := 187) dX6_fingerprint_185 rfl rfl ?_
    refine j_iconst (pc' := 188) (v := nI 3) dX6_fingerprint_187 rfl rfl ?_
    first | refine j_icmp_geN' (tgt := 212) (pc' := 191) (by with_reducible rfl) (by with_reducible rfl) (by omega) (by omega) dX6_fingerprint_188 rfl (by decide) (fun c188 => ?_) (fun c188 => ?_) | refine j_icmp_ge (tgt := 212) (pc' := 191) dX6_fingerprint_188 rfl (by decide) (fun c188 => ?_) (fun c188 => ?_)
    ·
      have : j = 3 := by omega
      subst this
      exact hx
    ·
      refine j_ldc2 (pc' := 194) k_770 dX6_fingerprint_191 rfl ?_
      refine j_lload_n (pc' := 195) dX6_fingerprint_194 rfl rfl ?_
      refine j_lmul (pc' := 196) dX6_fingerprint_195 rfl ?_
      refine j_aload_n (pc' := 197) dX6_fingerprint_196 rfl rfl ?_
      refine j_iload_n (pc' := 198) dX6_fingerprint_197 rfl rfl ?_
      refine j_iload (pc' := 200) dX6_fingerprint_198 rfl rfl ?_
      refine j_cVi (pc' := 203) m_X6_131 (c_X6_eventOf hs hv.n (by omega) (by omega) (by omega)) (by assumption) (by decide) rfl rfl rfl ⟨Nat.le_of_ble_eq_true rfl, Nat.le_of_ble_eq_true rfl⟩ ⟨Nat.zero_le _, Nat.zero_le _⟩ (Nat.le_of_ble_eq_true rfl) dX6_fingerprint_200 rfl (fun x1 I1 hq => ?_)
      obtain ⟨rfl, rfl⟩ := hq
      refine j_i2l (pc' := 204) dX6_fingerprint_203 rfl ?_
      refine j_ladd (pc' := 205) dX6_fingerprint_204 rfl ?_
      refine j_lstore_n (pc' := 206) (lv' := [_, _, _, _, _]) dX6_fingerprint_205 rfl (by decide) rfl ?_
      first | refine j_iincN (pc' := 209) (lv' := [_, _, _, _, _]) dX6_fingerprint_206 rfl rfl (by decide) rfl ?_ | refine j_iinc (pc' := 209) (lv' := [_, _, _, _, _]) dX6_fingerprint_206 rfl rfl rfl (by decide) rfl ?_
      refine j_goto (tgt := 185) dX6_fingerprint_209 (by decide) ?_
      rw [fpL_s (f := evOf v N i) (i := j) rfl]
      exact ih (j + 1) (by omega) (by omega)
set_option maxRecDepth 100000 in
set_option maxHeartbeats 4000000 in
theorem lp5_X6_fingerprint {E : jx_E} {l : Launch} {n : Nat} {kd : jx_K} {R : jx_R} {I0 : jx_I} {m : Nat} {F v a p o t c : Nat → Int32} {Q : jx_Q} {k T S N : Nat} {h : Int64} (hs : sMd kd R m) (hv : VI v k T S N) (hNb : N + 5000 < 2147483000) (hx : ∀ y, jx_J E l cX6_fingerprint 5 (some .long) RX6 false (jx_rm 4) 0 0 (Q) 0 0 n kd R (mI I0 m F v a p o t c) 218 [some (.ref m), some (.long (fp2 (evOf v N) 3 (wA N) h)), none, some (.int (nI (wA N))), y] []) : ∀ (z i : Nat) (y : Option Value), i ≤ 30 → i ≤ N → z + i = 31 → jx_J E l cX6_fingerprint 5 (some .long) RX6 false (jx_rm 4) 0 0 (Q) 0 0 n kd R (mI I0 m F v a p o t c) 165 [some (.ref m), some (.long (fp2 (evOf v N) 3 i h)), none, some (.int (nI i)), y] [] := by
  obtain ⟨K0, K1, K2, K3, K4, K5, K6, R0, R1, R2, R4, R6, R10⟩ := id hs
  intro z
  induction z with
  | zero => intro i y hi hiN hz; omega
  | succ z ih =>
    intro i y hi hiN hz
    refine j_iload_n (pc' := 166) dX6_fingerprint_165 rfl rfl ?_
    refine j_bipush (pc' := 168) (v := nI 30) dX6_fingerprint_166 rfl rfl ?_
    first | refine j_icmp_geN' (tgt := 218) (pc' := 171) (by with_reducible rfl) (by with_reducible rfl) (by omega) (by omega) dX6_fingerprint_168 rfl (by decide) (fun c168 => ?_) (fun c168 => ?_) | refine j_icmp_ge (tgt := 218) (pc' := 171) dX6_fingerprint_168 rfl (by decide) (fun c168 => ?_) (fun c168 => ?_)
    ·
      have : i = wA N := by unfold wA; split <;> omega
      subst this
      exact hx y
    ·
      refine j_iload_n (pc' := 172) dX6_fingerprint_171 rfl rfl ?_
      refine j_aload_n (pc' := 173) dX6_fingerprint_172 rfl rfl ?_
      refine j_getR (pc' := 176) f_X6_7 (by assumption) (by assumption) dX6_fingerprint_173 rfl ?_
      refine j_bipush (pc' := 178) (v := nI 9) dX6_fingerprint_176 rfl rfl ?_
      refine j_ialdv (pc' := 179) (by assumption) rfl (by omega) (by omega) (by first | (simp (disch := omega) only [jx_upS, jx_upK, jx_upA, mI_0, mI_1, mI_2, mI_3, mI_4, mI_5, mI_6, pk_us, pk_un, hv.n]; rfl) | rfl) dX6_fingerprint_178 rfl ?_
      first | refine j_icmp_geN' (tgt := 218) (pc' := 182) (by with_reducible rfl) (by with_reducible rfl) (by omega) (by omega) dX6_fingerprint_179 rfl (by decide) (fun c179 => ?_) (fun c179 => ?_) | refine j_icmp_ge (tgt := 218) (pc' := 182) dX6_fingerprint_179 rfl (by decide) (fun c179 => ?_) (fun c179 => ?_)
      ·
        have : i = wA N := by unfold wA; split <;> omega
        subst this
        exact hx y
      ·
        refine j_iconst (pc' := 183) (v := nI 0) dX6_fingerprint_182 rfl rfl ?_
        refine j_istore (pc' := 185) (lv' := [_, _, _, _, _]) dX6_fingerprint_183 rfl (by decide) rfl ?_
        refine lp4_X6_fingerprint hs hv hNb (by omega) ?_ 4 0 (by omega) (by omega)
        first | refine j_iincN (pc' := 215) (lv' := [_, _, _, _, _]) dX6_fingerprint_212 rfl rfl (by decide) rfl ?_ | refine j_iinc (pc' := 215) (lv' := [_, _, _, _, _]) dX6_fingerprint_212 rfl rfl rfl (by decide) rfl ?_
        refine j_goto (tgt := 165) dX6_fingerprint_215 (by decide) ?_
        exact ih (i + 1) _ (by omega) (by omega) (by omega)
set_option maxRecDepth 100000 in
set_option maxHeartbeats 4000000 in
theorem c_X6_fingerprint {E : jx_E} {l : Launch} {n : Nat} {kd : jx_K} {R : jx_R} {I0 : jx_I} {m : Nat} {F v a p o t c : Nat → Int32} {k T S N : Nat} (hs : sMd kd R m) (hv : VI v k T S N) (hNb : N + 5000 < 2147483000) : jx_C0 E l yX6_fingerprint cX6_fingerprint 5 (some .long) 4 n kd R (mI I0 m F v a p o t c) [.ref m] (fun r I' => r = some (.long (fpr v k T S N)) ∧ I' = mI I0 m F v a p o t c) := by
  obtain ⟨K0, K1, K2, K3, K4, K5, K6, R0, R1, R2, R4, R6, R10⟩ := id hs
  refine jx_C0.ofJ RX6 [some (.ref m), none, none, none, none] (by decide) rfl rfl (Nat.le_of_ble_eq_true rfl) rfl ?_
  refine j_ldc2 (pc' := 3) k_769 dX6_fingerprint_0 rfl ?_
  refine j_lstore_n (pc' := 4) (lv' := [_, _, _, _, _]) dX6_fingerprint_3 rfl (by decide) rfl ?_
  refine j_iconst (pc' := 5) (v := nI 0) dX6_fingerprint_4 rfl rfl ?_
  refine j_istore_n (pc' := 6) (lv' := [_, _, _, _, _]) dX6_fingerprint_5 rfl (by decide) rfl ?_
  refine lp1_X6_fingerprint hs hv hNb ?_ 6 0 (by omega) (by omega)
  obtain ⟨rk, hrk⟩ := hv.r
  refine j_ldc2 (pc' := 88) k_770 dX6_fingerprint_85 rfl ?_
  refine j_lload_n (pc' := 89) dX6_fingerprint_88 rfl rfl ?_
  refine j_lmul (pc' := 90) dX6_fingerprint_89 rfl ?_
  refine j_aload_n (pc' := 91) dX6_fingerprint_90 rfl rfl ?_
  refine j_getR (pc' := 94) f_X6_7 (by assumption) (by assumption) dX6_fingerprint_91 rfl ?_
  refine j_iconst (pc' := 95) (v := nI 0) dX6_fingerprint_94 rfl rfl ?_
  refine j_ialdv (pc' := 96) (by assumption) rfl (by omega) (by omega) (by first | (simp (disch := omega) only [jx_upS, jx_upK, jx_upA, mI_0, mI_1, mI_2, mI_3, mI_4, mI_5, mI_6, pk_us, pk_un]; rfl) | rfl) dX6_fingerprint_95 rfl ?_
  refine j_i2l (pc' := 97) dX6_fingerprint_96 rfl ?_
  refine j_ladd (pc' := 98) dX6_fingerprint_97 rfl ?_
  refine j_lstore_n (pc' := 99) (lv' := [_, _, _, _, _]) dX6_fingerprint_98 rfl (by decide) rfl ?_
  refine j_iconst (pc' := 100) (v := nI 0) dX6_fingerprint_99 rfl rfl ?_
  refine j_istore_n (pc' := 101) (lv' := [_, _, _, _, _]) dX6_fingerprint_100 rfl (by decide) rfl ?_
  refine lp3_X6_fingerprint hs hv hNb hrk (h := fpS (fpL (pl5 v T S) 5 157) (v 0)) (fun y => ?_) (k + 1) 0 none (by omega) (by omega)
  refine j_ldc2 (pc' := 151) k_770 dX6_fingerprint_148 rfl ?_
  refine j_lload_n (pc' := 152) dX6_fingerprint_151 rfl rfl ?_
  refine j_lmul (pc' := 153) dX6_fingerprint_152 rfl ?_
  refine j_aload_n (pc' := 154) dX6_fingerprint_153 rfl rfl ?_
  refine j_getR (pc' := 157) f_X6_7 (by assumption) (by assumption) dX6_fingerprint_154 rfl ?_
  refine j_bipush (pc' := 159) (v := nI 9) dX6_fingerprint_157 rfl rfl ?_
  refine j_ialdv (pc' := 160) (by assumption) rfl (by omega) (by omega) (by first | (simp (disch := omega) only [jx_upS, jx_upK, jx_upA, mI_0, mI_1, mI_2, mI_3, mI_4, mI_5, mI_6, pk_us, pk_un]; rfl) | rfl) dX6_fingerprint_159 rfl ?_
  refine j_i2l (pc' := 161) dX6_fingerprint_160 rfl ?_
  refine j_ladd (pc' := 162) dX6_fingerprint_161 rfl ?_
  refine j_lstore_n (pc' := 163) (lv' := [_, _, _, _, _]) dX6_fingerprint_162 rfl (by decide) rfl ?_
  refine j_iconst (pc' := 164) (v := nI 0) dX6_fingerprint_163 rfl rfl ?_
  refine j_istore_n (pc' := 165) (lv' := [_, _, _, _, _]) dX6_fingerprint_164 rfl (by decide) rfl ?_
  refine lp5_X6_fingerprint hs hv hNb (h := fpS (fp2 (tol v) 16 k (fpS (fpL (pl5 v T S) 5 157) (v 0))) (v 9)) (fun y2 => ?_) 31 0 y (by omega) (by omega) (by omega)
  refine j_lload_n (pc' := 219) dX6_fingerprint_218 rfl rfl ?_
  refine j_retL dX6_fingerprint_219 rfl ?_
  exact ⟨rfl, rfl⟩
