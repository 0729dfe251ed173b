theorem cp_step {I : jx_I} {x y i : Nat} (hxy : x ≠ y) : jx_up (va_up I y (fun j => if j < i then I x j else I y j)) y i (I x i) = va_up I y (fun j => if j < i + 1 then I x j else I y j) := by
  funext b
  by_cases hb : b = y
  · subst hb
    simp only [jx_up, va_up, if_true]
    funext j
    unfold upd
    by_cases h1 : j = i
    · subst h1
      simp
    · by_cases h2 : j < i
      · simp [h1, h2, Nat.lt_succ_of_lt h2]
      · simp [h1, h2]
        intro h3
        omega
  · simp [jx_up, va_up, hb]
set_option maxRecDepth 100000 in
set_option maxHeartbeats 4000000 in
theorem lp_X6_copies {E : jx_E} {l : Launch} {n : Nat} {kd : jx_K} {R : jx_R} {I : jx_I} {x y : Nat} (hx : kd x = (7, 1080)) (hy : kd y = (7, 1080)) (hxy : x ≠ y) : ∀ (k i : Nat), i ≤ 1080 → k + i = 1081 → jx_J E l cX6_copies 3 none RX6 false (jx_rm 0) 0 0 (jx_Q0 n kd R (jx_Pv (fun I' => I' = va_up I y (fun j => if j < 1080 then I x j else I y j)))) 0 0 n kd R (va_up I y (fun j => if j < i then I x j else I y j)) 2 [some (.ref x), some (.ref y), some (.int (nI i))] [] := by
  intro k
  induction k with
  | zero => intro i h1 h2; omega
  | succ k ih =>
    intro i h1 h2
    refine j_iload_n (pc' := 3) dX6_copies_2 rfl rfl ?_
    refine j_sipush (pc' := 6) (v := nI 1080) dX6_copies_3 rfl rfl ?_
    first | refine j_icmp_geN' (tgt := 21) (pc' := 9) (by with_reducible rfl) (by with_reducible rfl) (by omega) (by omega) dX6_copies_6 rfl (by decide) (fun c6 => ?_) (fun c6 => ?_) | refine j_icmp_ge (tgt := 21) (pc' := 9) dX6_copies_6 rfl (by decide) (fun c6 => ?_) (fun c6 => ?_)
    ·
      refine j_retv dX6_copies_21 rfl ?_
      have : i = 1080 := by omega
      subst this
      rfl
    ·
      refine j_aload_n (pc' := 10) dX6_copies_9 rfl rfl ?_
      refine j_iload_n (pc' := 11) dX6_copies_10 rfl rfl ?_
      refine j_aload_n (pc' := 12) dX6_copies_11 rfl rfl ?_
      refine j_iload_n (pc' := 13) dX6_copies_12 rfl rfl ?_
      refine j_ialdv (pc' := 14) (by assumption) rfl (by omega) (by omega) (by first | (simp (disch := omega) only [jx_upS, jx_upK, jx_upA, va_up_self, va_up_ne, ne_eq, hxy, not_false_eq_true]; rfl) | rfl) dX6_copies_13 rfl ?_
      refine j_iast (pc' := 15) (by assumption) rfl (by omega) (by omega) dX6_copies_14 rfl ?_
      refine j_eqI (cp_step hxy) ?_
      first | refine j_iincN (pc' := 18) (lv' := [_, _, _]) dX6_copies_15 rfl rfl (by decide) rfl ?_ | refine j_iinc (pc' := 18) (lv' := [_, _, _]) dX6_copies_15 rfl rfl rfl (by decide) rfl ?_
      refine j_goto (tgt := 2) dX6_copies_18 (by decide) ?_
      exact ih (i + 1) (by omega) (by omega)
set_option maxRecDepth 100000 in
set_option maxHeartbeats 4000000 in
theorem c_X6_copies {E : jx_E} {l : Launch} {n : Nat} {kd : jx_K} {R : jx_R} {I : jx_I} {x y : Nat} (hx : kd x = (7, 1080)) (hy : kd y = (7, 1080)) (hxy : x ≠ y) : jx_Cv E l yX6_copies cX6_copies 3 none 0 n kd R I [.ref x, .ref y] (fun I' => I' = va_up I y (fun j => if j < 1080 then I x j else I y j)) := by
  refine jx_C0.ofJ RX6 [some (.ref x), some (.ref y), none] (by decide) rfl rfl (Nat.le_of_ble_eq_true rfl) rfl ?_
  refine j_iconst (pc' := 1) (v := nI 0) dX6_copies_0 rfl rfl ?_
  refine j_istore_n (pc' := 2) (lv' := [_, _, _]) dX6_copies_1 rfl (by decide) rfl ?_
  refine j_eqI (I' := va_up I y (fun j => if j < 0 then I x j else I y j)) ?_ (lp_X6_copies hx hy hxy 1081 0 (by omega) (by omega))
  funext b
  by_cases hb : b = y
  · subst hb
    simp [va_up]
  · simp [va_up, hb]
