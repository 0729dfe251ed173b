set_option maxRecDepth 100000 in
set_option maxHeartbeats 4000000 in
theorem lp2_X4_fillList {E : jx_E} {l : Launch} {n : Nat} {kd : jx_K} {R : jx_R} {I : jx_I} {q a : Nat} {v : Nat → Int32} {k T S N : Nat} {rk : Nat → Nat} {Q : jx_Q} {i L : Nat} (hs : sSt kd R q) (hS : aSt I q v k T) (hv : VI v k T S N) (hrk : RK v k rk) (ka : kd a = (7, 16)) (hfa : a < q ∨ q + 56 ≤ a) (hi : i < k) : ∀ (w : Nat) (o : Nat → Int32), (∀ j, j < w → ∃ jq, jq < i ∧ o j = nI jq) → w ≤ 15 → (∀ z, jx_J E l cX4_fillList 5 (some .int) RX4 false (jx_rm 4) 0 0 (Q) 0 0 n kd R (va_up I a (insO v i w o)) 63 [some (.ref q), some (.ref a), some (.int (nI L)), some (.int (nI i)), some (.int z)] []) → jx_J E l cX4_fillList 5 (some .int) RX4 false (jx_rm 4) 0 0 (Q) 0 0 n kd R (va_up I a (o)) 23 [some (.ref q), some (.ref a), some (.int (nI L)), some (.int (nI i)), some (.int (nI w))] [] := by
  obtain ⟨K0, K1, R0, R1, R2, hF, hL, hP⟩ := id hs
  have h16 := hv.k16
  intro w
  induction w with
  | zero =>
    intro o ho' hw hx
    have h : aS (va_up I a o) (va_up I a o) q v k T S N := aS.self (aSt_ext hS h16 (fun b _ _ => va_up_ne _ _ (by omega))) hv
    refine j_iload (pc' := 25) dX4_fillList_23 rfl rfl ?_
    first | refine j_if_leN' (tgt := 58) (pc' := 28) (by with_reducible rfl) (by omega) dX4_fillList_25 rfl (by decide) (fun c25 => ?_) (fun c25 => ?_) | refine j_if_le (tgt := 58) (pc' := 28) dX4_fillList_25 rfl (by decide) (fun c25 => ?_) (fun c25 => ?_)
    ·
      refine j_aload_n (pc' := 59) dX4_fillList_58 rfl rfl ?_
      refine j_iload (pc' := 61) dX4_fillList_59 rfl rfl ?_
      refine j_iload_n (pc' := 62) dX4_fillList_61 rfl rfl ?_
      refine j_iast (pc' := 63) (by assumption) rfl (by omega) (by omega) dX4_fillList_62 rfl ?_
      rw [vaU]
      exact hx _
    ·
      exact absurd c25 (by omega)
  | succ w ih =>
    intro o ho' hw hx
    have h : aS (va_up I a o) (va_up I a o) q v k T S N := aS.self (aSt_ext hS h16 (fun b _ _ => va_up_ne _ _ (by omega))) hv
    obtain ⟨jq, hji, ho⟩ := ho' w (by omega)
    have hjk : jq < k := by omega
    have e : w + 1 - 1 = w := by omega
    refine j_iload (pc' := 25) dX4_fillList_23 rfl rfl ?_
    first | refine j_if_leN' (tgt := 58) (pc' := 28) (by with_reducible rfl) (by omega) dX4_fillList_25 rfl (by decide) (fun c25 => ?_) (fun c25 => ?_) | refine j_if_le (tgt := 58) (pc' := 28) dX4_fillList_25 rfl (by decide) (fun c25 => ?_) (fun c25 => ?_)
    ·
      exact absurd c25 (by omega)
    ·
      refine j_aload_n (pc' := 29) dX4_fillList_28 rfl rfl ?_
      refine j_iload_n (pc' := 30) dX4_fillList_29 rfl rfl ?_
      refine j_aload_n (pc' := 31) dX4_fillList_30 rfl rfl ?_
      refine j_iload (pc' := 33) dX4_fillList_31 rfl rfl ?_
      refine j_iconst (pc' := 34) (v := nI 1) dX4_fillList_33 rfl rfl ?_
      first | refine j_isubN' (pc' := 35) (by with_reducible rfl) (by with_reducible rfl) (by omega) dX4_fillList_34 rfl ?_ | refine j_isub (pc' := 35) dX4_fillList_34 rfl ?_
      refine j_ialdv (pc' := 36) (by assumption) rfl (by omega) (by omega) (by first | (simp (disch := omega) only [jx_upS, jx_upK, jx_upA, va_up_self, e, ho]; rfl) | rfl) dX4_fillList_35 rfl ?_
      refine j_cVi (pc' := 39) m_X4_188 (c_X4_comesBefore hs h hi hjk) (by assumption) (by decide) rfl rfl rfl ⟨Nat.le_of_ble_eq_true rfl, Nat.le_of_ble_eq_true rfl⟩ ⟨Nat.zero_le _, Nat.zero_le _⟩ (Nat.le_of_ble_eq_true rfl) dX4_fillList_36 rfl (fun x1 I1 hq => ?_)
      obtain ⟨rfl, rfl⟩ := hq
      rw [cB_ahead hv hi hjk hji]
      first | refine j_if_eqB' (tgt := 58) (pc' := 42) (by with_reducible rfl) dX4_fillList_39 rfl (by decide) (fun c39 => ?_) (fun c39 => ?_) | refine j_if_eqN' (tgt := 58) (pc' := 42) (by with_reducible rfl) (by omega) dX4_fillList_39 rfl (by decide) (fun c39 => ?_) (fun c39 => ?_) | refine j_if_eq (tgt := 58) (pc' := 42) dX4_fillList_39 rfl (by decide) (fun c39 => ?_) (fun c39 => ?_)
      ·
        refine j_aload_n (pc' := 59) dX4_fillList_58 rfl rfl ?_
        refine j_iload (pc' := 61) dX4_fillList_59 rfl rfl ?_
        refine j_iload_n (pc' := 62) dX4_fillList_61 rfl rfl ?_
        refine j_iast (pc' := 63) (by assumption) rfl (by omega) (by omega) dX4_fillList_62 rfl ?_
        rw [vaU]
        have hh := hx (nI (w + 1))
        rw [insO, if_neg (by rw [ho, nI_clamp (by omega), c39]; decide)] at hh
        exact hh
      ·
        refine j_aload_n (pc' := 43) dX4_fillList_42 rfl rfl ?_
        refine j_iload (pc' := 45) dX4_fillList_43 rfl rfl ?_
        refine j_aload_n (pc' := 46) dX4_fillList_45 rfl rfl ?_
        refine j_iload (pc' := 48) dX4_fillList_46 rfl rfl ?_
        refine j_iconst (pc' := 49) (v := nI 1) dX4_fillList_48 rfl rfl ?_
        first | refine j_isubN' (pc' := 50) (by with_reducible rfl) (by with_reducible rfl) (by omega) dX4_fillList_49 rfl ?_ | refine j_isub (pc' := 50) dX4_fillList_49 rfl ?_
        refine j_ialdv (pc' := 51) (by assumption) rfl (by omega) (by omega) (by first | (simp (disch := omega) only [jx_upS, jx_upK, jx_upA, va_up_self, e, ho]; rfl) | rfl) dX4_fillList_50 rfl ?_
        refine j_iast (pc' := 52) (by assumption) rfl (by omega) (by omega) dX4_fillList_51 rfl ?_
        refine j_iincP (pc' := 55) (lv' := [_, _, _, _, _]) (by omega) dX4_fillList_52 rfl rfl (by decide) rfl ?_
        refine j_goto (tgt := 23) dX4_fillList_55 (by decide) ?_
        rw [vaU]
        have e1 : w + 1 - 1 = w := by omega
        rw [e1, ← ho]
        refine ih _ (fun j hj => ?_) (by omega) (fun z => ?_)
        · obtain ⟨q2, h1, h2⟩ := ho' j (by omega)
          exact ⟨q2, h1, by rw [pk_un (by omega)]; exact h2⟩
        · have hh := hx z
          rw [insO, if_pos (by rw [ho, nI_clamp (by omega)]; exact c39)] at hh
          exact hh
set_option maxRecDepth 100000 in
set_option maxHeartbeats 4000000 in
theorem lp_X4_fillList {E : jx_E} {l : Launch} {n : Nat} {kd : jx_K} {R : jx_R} {I : jx_I} {q a : Nat} {v : Nat → Int32} {k T S N : Nat} {rk : Nat → Nat} {o : Nat → Int32} (hs : sSt kd R q) (hS : aSt I q v k T) (hv : VI v k T S N) (hrk : RK v k rk) (ka : kd a = (7, 16)) (hfa : a < q ∨ q + 56 ≤ a) : ∀ (z i : Nat) (y : Option Value), z + i = k + 1 → i ≤ k → jx_J E l cX4_fillList 5 (some .int) RX4 false (jx_rm 4) 0 0 (jx_Q0 n kd R (jx_Pi (fun r I' => r = nI (lsF v o k).2 ∧ I' = va_up I a (lsF v o k).1))) 0 0 n kd R (va_up I a (lsF v o i).1) 4 [some (.ref q), some (.ref a), some (.int (nI (lsF v o i).2)), some (.int (nI i)), y] [] := by
  obtain ⟨K0, K1, R0, R1, R2, hF, hL, hP⟩ := id hs
  have h16 := hv.k16
  intro z
  induction z with
  | zero => intro i y hz hi; omega
  | succ z ih =>
    intro i y hz hik
    have h : aS (va_up I a (lsF v o i).1) (va_up I a (lsF v o i).1) q v k T S N := aS.self (aSt_ext hS h16 (fun b _ _ => va_up_ne _ _ (by omega))) hv
    have hls := lsF_ok (v := v) (o := o) i
    refine j_iload_n (pc' := 5) dX4_fillList_4 rfl rfl ?_
    refine j_aload_n (pc' := 6) dX4_fillList_5 rfl rfl ?_
    refine j_getIv (pc' := 9) f_X4_32 (by assumption) (by first | (simp (disch := omega) only [jx_upS, jx_upK, jx_upA, h.num, h.vi.z]; rfl) | rfl) dX4_fillList_6 rfl ?_
    first | refine j_icmp_geN' (tgt := 72) (pc' := 12) (by with_reducible rfl) (by with_reducible rfl) (by omega) (by omega) dX4_fillList_9 rfl (by decide) (fun c9 => ?_) (fun c9 => ?_) | refine j_icmp_ge (tgt := 72) (pc' := 12) dX4_fillList_9 rfl (by decide) (fun c9 => ?_) (fun c9 => ?_)
    ·
      refine j_iload_n (pc' := 73) dX4_fillList_72 rfl rfl ?_
      refine j_reti dX4_fillList_73 rfl (by first | rfl | exact bi_n _) ?_
      have e : i = k := by omega
      subst e
      exact ⟨rfl, rfl⟩
    ·
      have hi : i < k := by omega
      refine j_aload_n (pc' := 13) dX4_fillList_12 rfl rfl ?_
      refine j_iload_n (pc' := 14) dX4_fillList_13 rfl rfl ?_
      refine j_cVi (pc' := 17) m_X4_172 (c_X4_whyHidden hs h hi hrk) (by assumption) (by decide) rfl rfl rfl ⟨Nat.le_of_ble_eq_true rfl, Nat.le_of_ble_eq_true rfl⟩ ⟨Nat.zero_le _, Nat.zero_le _⟩ (Nat.le_of_ble_eq_true rfl) dX4_fillList_14 rfl (fun x1 I1 hq => ?_)
      obtain ⟨rfl, rfl⟩ := hq
      first | refine j_if_neB' (tgt := 66) (pc' := 20) (by with_reducible rfl) dX4_fillList_17 rfl (by decide) (fun c17 => ?_) (fun c17 => ?_) | refine j_if_neN' (tgt := 66) (pc' := 20) (by with_reducible rfl) (by omega) dX4_fillList_17 rfl (by decide) (fun c17 => ?_) (fun c17 => ?_) | refine j_if_ne (tgt := 66) (pc' := 20) dX4_fillList_17 rfl (by decide) (fun c17 => ?_) (fun c17 => ?_)
      ·
        have e : lsF v o (i + 1) = lsF v o i := by rw [lsF, if_neg c17]
        first | refine j_iincN (pc' := 69) (lv' := [_, _, _, _, _]) dX4_fillList_66 rfl rfl (by decide) rfl ?_ | refine j_iinc (pc' := 69) (lv' := [_, _, _, _, _]) dX4_fillList_66 rfl rfl rfl (by decide) rfl ?_
        refine j_goto (tgt := 4) dX4_fillList_69 (by decide) ?_
        have hh := ih (i + 1) y (by omega) (by omega)
        rw [e] at hh
        exact hh
      ·
        refine j_iload_n (pc' := 21) dX4_fillList_20 rfl rfl ?_
        refine j_istore (pc' := 23) (lv' := [_, _, _, _, _]) dX4_fillList_21 rfl (by decide) rfl ?_
        refine lp2_X4_fillList hs hS hv hrk ka hfa hi _ _ (hls.2) (by omega) (fun z2 => ?_)
        first | refine j_iincN (pc' := 66) (lv' := [_, _, _, _, _]) dX4_fillList_63 rfl rfl (by decide) rfl ?_ | refine j_iinc (pc' := 66) (lv' := [_, _, _, _, _]) dX4_fillList_63 rfl rfl rfl (by decide) rfl ?_
        first | refine j_iincN (pc' := 69) (lv' := [_, _, _, _, _]) dX4_fillList_66 rfl rfl (by decide) rfl ?_ | refine j_iinc (pc' := 69) (lv' := [_, _, _, _, _]) dX4_fillList_66 rfl rfl rfl (by decide) rfl ?_
        refine j_goto (tgt := 4) dX4_fillList_69 (by decide) ?_
        have e : lsF v o (i + 1) = (insO v i (lsF v o i).2 (lsF v o i).1, (lsF v o i).2 + 1) := by rw [lsF, if_pos c17]
        have hh := ih (i + 1) (some (.int z2)) (by omega) (by omega)
        rw [e] at hh
        exact hh
set_option maxRecDepth 100000 in
set_option maxHeartbeats 4000000 in
theorem c_X4_fillList {E : jx_E} {l : Launch} {n : Nat} {kd : jx_K} {R : jx_R} {I : jx_I} {q a : Nat} {v : Nat → Int32} {k T S N : Nat} {rk : Nat → Nat} (hs : sSt kd R q) (hS : aSt I q v k T) (hv : VI v k T S N) (hrk : RK v k rk) (ka : kd a = (7, 16)) (hfa : a < q ∨ q + 56 ≤ a) : jx_Ci E l yX4_fillList cX4_fillList 5 (some .int) 4 n kd R (I) [.ref q, .ref a] (fun r I' => r = nI (lsF v (I a) k).2 ∧ I' = va_up I a (lsF v (I a) k).1) := by
  obtain ⟨K0, K1, R0, R1, R2, hF, hL, hP⟩ := id hs
  have h16 := hv.k16
  refine jx_C0.ofJ RX4 [some (.ref q), some (.ref a), none, none, none] (by decide) rfl rfl (Nat.le_of_ble_eq_true rfl) rfl ?_
  refine j_iconst (pc' := 1) (v := nI 0) dX4_fillList_0 rfl rfl ?_
  refine j_istore_n (pc' := 2) (lv' := [_, _, _, _, _]) dX4_fillList_1 rfl (by decide) rfl ?_
  refine j_iconst (pc' := 3) (v := nI 0) dX4_fillList_2 rfl rfl ?_
  refine j_istore_n (pc' := 4) (lv' := [_, _, _, _, _]) dX4_fillList_3 rfl (by decide) rfl ?_
  have hh := lp_X4_fillList (E := E) (l := l) (n := n) (o := I a) hs hS hv hrk ka hfa (k + 1) 0 none (by omega) (by omega)
  rw [lsF, vaI] at hh
  exact hh

