/-! ===== the class: the script's own cells ===== -/
theorem j_caldv {E : jx_E} {l : Launch} {cd : ByteArray} {nL : Nat} {ret : Option FieldType} {own : String} {ini : Bool} {Rm : Room} {mc ms : Nat} {Q : jx_Q} {cells slots n : Nat} {kd : jx_K} {R : jx_R} {I : jx_I} {pc pc' : Nat} {lv : List (Option Value)} {st : List Value} {a mm j : Nat} {i v : Int32} (hk : kd a = (8, mm)) (hi : i = nI j) (hj : j < mm) (hm : mm < 2147483648) (hv : I a j = v) (hd : decode cd pc = .ok (.caload, 1)) (hp : pc + 1 = pc') (k : jx_J E l cd nL ret own ini Rm mc ms Q cells slots n kd R I pc' lv (.int v :: st)) : jx_J E l cd nL ret own ini Rm mc ms Q cells slots n kd R I pc lv (.int i :: .ref a :: st) := by
  subst hv
  exact j_cald hk hi hj hm hd hp k
def sSc (kd : jx_K) (R : jx_R) (s : Nat) : Prop := kd s = (3, 0) ∧ kd (s + 1) = (8, 80) ∧ kd (s + 2) = (7, 14) ∧ kd (s + 3) = (7, 14) ∧ kd (s + 4) = (7, 14) ∧ R s 0 = some (s + 1) ∧ R s 1 = some (s + 2) ∧ R s 2 = some (s + 3) ∧ R s 3 = some (s + 4)
def cI (I0 : jx_I) (s : Nat) (F t w a b : Nat → Int32) : jx_I := fun z => if z = s then F else if z = s + 1 then t else if z = s + 2 then w else if z = s + 3 then a else if z = s + 4 then b else I0 z
theorem cI_0 {I0 : jx_I} {s : Nat} {F t w a b : Nat → Int32} : cI I0 s F t w a b s = F := by simp [cI]
theorem cW_0 {I0 : jx_I} {s : Nat} {F t w a b : Nat → Int32} {j : Nat} {x : Int32} : jx_up (cI I0 s F t w a b) s j x = cI I0 s (upd F j x) t w a b := by
  funext z
  by_cases hb : z = s
  · subst hb
    simp [jx_up, cI]
  · simp [jx_up, cI, hb]
theorem cI_1 {I0 : jx_I} {s : Nat} {F t w a b : Nat → Int32} : cI I0 s F t w a b (s + 1) = t := by simp [cI]
theorem cW_1 {I0 : jx_I} {s : Nat} {F t w a b : Nat → Int32} {j : Nat} {x : Int32} : jx_up (cI I0 s F t w a b) (s + 1) j x = cI I0 s F (upd t j x) w a b := by
  funext z
  by_cases hb : z = (s + 1)
  · subst hb
    simp [jx_up, cI]
  · simp [jx_up, cI, hb]
theorem cI_2 {I0 : jx_I} {s : Nat} {F t w a b : Nat → Int32} : cI I0 s F t w a b (s + 2) = w := by simp [cI]
theorem cW_2 {I0 : jx_I} {s : Nat} {F t w a b : Nat → Int32} {j : Nat} {x : Int32} : jx_up (cI I0 s F t w a b) (s + 2) j x = cI I0 s F t (upd w j x) a b := by
  funext z
  by_cases hb : z = (s + 2)
  · subst hb
    simp [jx_up, cI]
  · simp [jx_up, cI, hb]
theorem cI_3 {I0 : jx_I} {s : Nat} {F t w a b : Nat → Int32} : cI I0 s F t w a b (s + 3) = a := by simp [cI]
theorem cW_3 {I0 : jx_I} {s : Nat} {F t w a b : Nat → Int32} {j : Nat} {x : Int32} : jx_up (cI I0 s F t w a b) (s + 3) j x = cI I0 s F t w (upd a j x) b := by
  funext z
  by_cases hb : z = (s + 3)
  · subst hb
    simp [jx_up, cI]
  · simp [jx_up, cI, hb]
theorem cI_4 {I0 : jx_I} {s : Nat} {F t w a b : Nat → Int32} : cI I0 s F t w a b (s + 4) = b := by simp [cI]
theorem cW_4 {I0 : jx_I} {s : Nat} {F t w a b : Nat → Int32} {j : Nat} {x : Int32} : jx_up (cI I0 s F t w a b) (s + 4) j x = cI I0 s F t w a (upd b j x) := by
  funext z
  by_cases hb : z = (s + 4)
  · subst hb
    simp [jx_up, cI]
  · simp [jx_up, cI, hb]
theorem cI_ne {I0 : jx_I} {s : Nat} {F t w a b : Nat → Int32} {z : Nat} (h : z < s ∨ s + 4 < z) : cI I0 s F t w a b z = I0 z := by
  unfold cI
  rw [if_neg (by omega), if_neg (by omega), if_neg (by omega), if_neg (by omega), if_neg (by omega)]
theorem cI_eta (I : jx_I) (s : Nat) : cI I s (I s) (I (s + 1)) (I (s + 2)) (I (s + 3)) (I (s + 4)) = I := by
  funext z
  unfold cI
  repeat' split
  all_goals (first | rfl | (subst_vars; rfl))
set_option maxRecDepth 100000 in
set_option maxHeartbeats 4000000 in
theorem c_X3_append {E : jx_E} {l : Launch} {n : Nat} {kd : jx_K} {R : jx_R} {I0 : jx_I} {s : Nat} {F t w a b : Nat → Int32} {L : Nat} {x : Int32} (hs : sSc kd R s) (hL : F 4 = nI L) (hL8 : L ≤ 80) (hx : vp_nar .char x = x) : jx_Ci E l yX3_append cX3_append 2 (some .int) 0 n kd R (cI I0 s F t w a b) [.ref s, .int x] (fun r I' => r = (if L = 80 then -20003 else nI (L + 1)) ∧ I' = if L = 80 then cI I0 s F t w a b else cI I0 s (upd F 4 (nI (L + 1))) (upd t L x) w a b) := by
  obtain ⟨K0, K1, K2, K3, K4, R0, R1, R2, R3⟩ := id hs
  refine jx_C0.ofJ RX3 [some (.ref s), some (.int x)] (by decide) rfl rfl (Nat.le_of_ble_eq_true rfl) rfl ?_
  refine j_aload_n (pc' := 1) dX3_append_0 rfl rfl ?_
  refine j_getIv (pc' := 4) f_X3_25 (by assumption) (by first | (simp (disch := omega) only [jx_upS, jx_upK, jx_upA, cI_0, cI_1, cI_2, cI_3, cI_4, pk_us, pk_un, hL]; rfl) | rfl) dX3_append_1 rfl ?_
  refine j_bipush (pc' := 6) (v := nI 80) dX3_append_4 rfl rfl ?_
  first | refine j_icmp_ltN' (tgt := 13) (pc' := 9) (by with_reducible rfl) (by with_reducible rfl) (by omega) (by omega) dX3_append_6 rfl (by decide) (fun c6 => ?_) (fun c6 => ?_) | refine j_icmp_lt (tgt := 13) (pc' := 9) dX3_append_6 rfl (by decide) (fun c6 => ?_) (fun c6 => ?_)
  ·
    refine j_aload_n (pc' := 14) dX3_append_13 rfl rfl ?_
    refine j_getR (pc' := 17) f_X3_11 (by assumption) (by assumption) dX3_append_14 rfl ?_
    refine j_aload_n (pc' := 18) dX3_append_17 rfl rfl ?_
    refine j_getIv (pc' := 21) f_X3_25 (by assumption) (by first | (simp (disch := omega) only [jx_upS, jx_upK, jx_upA, cI_0, cI_1, cI_2, cI_3, cI_4, pk_us, pk_un, hL]; rfl) | rfl) dX3_append_18 rfl ?_
    refine j_iload_n (pc' := 22) dX3_append_21 rfl rfl ?_
    refine j_cast (pc' := 23) (by assumption) rfl (by omega) (by omega) (by assumption) dX3_append_22 rfl ?_
    refine j_eqI cW_1 ?_
    refine j_aload_n (pc' := 24) dX3_append_23 rfl rfl ?_
    refine j_dup (pc' := 25) dX3_append_24 rfl rfl ?_
    refine j_getIv (pc' := 28) f_X3_25 (by assumption) (by first | (simp (disch := omega) only [jx_upS, jx_upK, jx_upA, cI_0, cI_1, cI_2, cI_3, cI_4, pk_us, pk_un, hL]; rfl) | rfl) dX3_append_25 rfl ?_
    refine j_iconst (pc' := 29) (v := nI 1) dX3_append_28 rfl rfl ?_
    first | refine j_iaddN' (pc' := 30) (by with_reducible rfl) (by with_reducible rfl) dX3_append_29 rfl ?_ | refine j_iadd (pc' := 30) dX3_append_29 rfl ?_
    refine j_putI (pc' := 33) f_X3_25 (by assumption) rfl rfl dX3_append_30 rfl ?_
    refine j_eqI cW_0 ?_
    refine j_aload_n (pc' := 34) dX3_append_33 rfl rfl ?_
    refine j_getIv (pc' := 37) f_X3_25 (by assumption) (by first | (simp (disch := omega) only [jx_upS, jx_upK, jx_upA, cI_0, cI_1, cI_2, cI_3, cI_4, pk_us, pk_un, hL]; rfl) | rfl) dX3_append_34 rfl ?_
    refine j_reti dX3_append_37 rfl (by first | rfl | exact bi_n _) ?_
    rw [if_neg (by omega), if_neg (by omega)]
    exact ⟨rfl, rfl⟩
  ·
    refine j_sipush (pc' := 12) (v := -20003) dX3_append_9 rfl rfl ?_
    refine j_reti dX3_append_12 rfl (by first | rfl | exact bi_n _) ?_
    have e : L = 80 := by omega
    rw [if_pos e, if_pos e]
    exact ⟨rfl, rfl⟩
