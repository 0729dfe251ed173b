/-! ===== what is made: addresses by name ===== -/
theorem j_newA {E : jx_E} {l : Launch} {cd : ByteArray} {nL : Nat} {ret : Option FieldType} {own : String} {ini : Bool} {Rm : Room} {mc ms : Nat} {Q : jx_Q} {cells slots n : Nat} {kd : jx_K} {R : jx_R} {I : jx_I} {pc pc' : Nat} {lv : List (Option Value)} {st : List Value} {ix ci N : Nat} {a : Nat} (hf : jx_nw own ix ci N) (ha : E.2.2.1 + n = a) (hcells : cells + 1 ≤ Rm.cells) (hslots : slots + N ≤ Rm.slots) (hd : decode cd pc = .ok (.new ix, 3)) (hp : pc + 3 = pc') (k : jx_J E l cd nL ret own ini Rm mc ms Q (cells + 1) (slots + N) (n + 1) (va_up kd a (ci, 0)) (va_up R a (fun _ => none)) (va_up I a (fun _ => 0)) pc' lv (.ref a :: st)) : jx_J E l cd nL ret own ini Rm mc ms Q cells slots n kd R I pc lv st := by
  subst ha
  exact j_new hf hcells hslots hd hp k
theorem j_newaIA {E : jx_E} {l : Launch} {cd : ByteArray} {nL : Nat} {ret : Option FieldType} {own : String} {ini : Bool} {Rm : Room} {mc ms : Nat} {Q : jx_Q} {cells slots n : Nat} {kd : jx_K} {R : jx_R} {I : jx_I} {pc pc' : Nat} {lv : List (Option Value)} {st : List Value} {mm : Nat} {i : Int32} {a : Nat} (ha : E.2.2.1 + n = a) (hi : i = nI mm) (hm : mm < 65536) (hcells : cells + 1 ≤ Rm.cells) (hslots : slots + mm ≤ Rm.slots) (hw : Cond.arrayClass .int ∈ jx_W) (hd : decode cd pc = .ok (.newarray .int, 2)) (hp : pc + 2 = pc') (k : jx_J E l cd nL ret own ini Rm mc ms Q (cells + 1) (slots + mm) (n + 1) (va_up kd a (7, mm)) (va_up R a (fun _ => none)) (va_up I a (fun _ => 0)) pc' lv (.ref a :: st)) : jx_J E l cd nL ret own ini Rm mc ms Q cells slots n kd R I pc lv (.int i :: st) := by
  subst ha
  exact j_newaI hi hm hcells hslots hw hd hp k
theorem j_newaCA {E : jx_E} {l : Launch} {cd : ByteArray} {nL : Nat} {ret : Option FieldType} {own : String} {ini : Bool} {Rm : Room} {mc ms : Nat} {Q : jx_Q} {cells slots n : Nat} {kd : jx_K} {R : jx_R} {I : jx_I} {pc pc' : Nat} {lv : List (Option Value)} {st : List Value} {mm : Nat} {i : Int32} {a : Nat} (ha : E.2.2.1 + n = a) (hi : i = nI mm) (hm : mm < 65536) (hcells : cells + 1 ≤ Rm.cells) (hslots : slots + mm ≤ Rm.slots) (hw : Cond.arrayClass .char ∈ jx_W) (hd : decode cd pc = .ok (.newarray .char, 2)) (hp : pc + 2 = pc') (k : jx_J E l cd nL ret own ini Rm mc ms Q (cells + 1) (slots + mm) (n + 1) (va_up kd a (8, mm)) (va_up R a (fun _ => none)) (va_up I a (fun _ => 0)) pc' lv (.ref a :: st)) : jx_J E l cd nL ret own ini Rm mc ms Q cells slots n kd R I pc lv (.int i :: st) := by
  subst ha
  exact j_newaC hi hm hcells hslots hw hd hp k
theorem j_anewPA {E : jx_E} {l : Launch} {cd : ByteArray} {nL : Nat} {ret : Option FieldType} {own : String} {ini : Bool} {Rm : Room} {mc ms : Nat} {Q : jx_Q} {cells slots n : Nat} {kd : jx_K} {R : jx_R} {I : jx_I} {pc pc' : Nat} {lv : List (Option Value)} {st : List Value} {ix mm : Nat} {i : Int32} {a : Nat} (ha : E.2.2.1 + n = a) (hi : i = nI mm) (hm : mm < 65536) (hcells : cells + 1 ≤ Rm.cells) (hslots : slots + mm ≤ Rm.slots) (hw : Cond.classLink own ix RX2 ∈ jx_W) (hd : decode cd pc = .ok (.anewarray ix, 3)) (hp : pc + 3 = pc') (k : jx_J E l cd nL ret own ini Rm mc ms Q (cells + 1) (slots + mm) (n + 1) (va_up kd a (9, mm)) (va_up R a (fun _ => none)) (va_up I a (fun _ => 0)) pc' lv (.ref a :: st)) : jx_J E l cd nL ret own ini Rm mc ms Q cells slots n kd R I pc lv (.int i :: st) := by
  subst ha
  exact j_anewP hi hm hcells hslots hw hd hp k
theorem j_anewSA {E : jx_E} {l : Launch} {cd : ByteArray} {nL : Nat} {ret : Option FieldType} {own : String} {ini : Bool} {Rm : Room} {mc ms : Nat} {Q : jx_Q} {cells slots n : Nat} {kd : jx_K} {R : jx_R} {I : jx_I} {pc pc' : Nat} {lv : List (Option Value)} {st : List Value} {ix mm : Nat} {i : Int32} {a : Nat} (ha : E.2.2.1 + n = a) (hi : i = nI mm) (hm : mm < 65536) (hcells : cells + 1 ≤ Rm.cells) (hslots : slots + mm ≤ Rm.slots) (hw : Cond.classLink own ix RX4 ∈ jx_W) (hd : decode cd pc = .ok (.anewarray ix, 3)) (hp : pc + 3 = pc') (k : jx_J E l cd nL ret own ini Rm mc ms Q (cells + 1) (slots + mm) (n + 1) (va_up kd a (10, mm)) (va_up R a (fun _ => none)) (va_up I a (fun _ => 0)) pc' lv (.ref a :: st)) : jx_J E l cd nL ret own ini Rm mc ms Q cells slots n kd R I pc lv (.int i :: st) := by
  subst ha
  exact j_anewS hi hm hcells hslots hw hd hp k
theorem j_retvG {E : jx_E} {l : Launch} {cd : ByteArray} {nL : Nat} {ret : Option FieldType} {own : String} {ini : Bool} {Rm : Room} {mc ms n : Nat} {Q : jx_Q} {kd : jx_K} {R : jx_R} {I : jx_I} {pc : Nat} {lv : List (Option Value)} (hd : decode cd pc = .ok (.return_, 1)) (hr : ret = none) (h : Q none n kd R I) : jx_J E l cd nL ret own ini Rm mc ms Q mc ms n kd R I pc lv [] := j_return hd hr h
def nFr (a b : Nat) (kd kd1 : jx_K) (R R1 : jx_R) (I I1 : jx_I) : Prop := (∀ z, z < a ∨ b ≤ z → R1 z = R z ∧ I1 z = I z) ∧ ∀ z, z ≤ a ∨ b ≤ z → kd1 z = kd z
def jx_QN (P : jx_K → jx_R → jx_I → Prop) : jx_Q := fun v _ kd' R' I' => v = none ∧ P kd' R' I'
def FL0 : Nat → Int32 := upd (upd (upd (fun _ => 0) 1 (nI 10)) 2 (nI 5)) 3 (nI 2)
theorem jx_CtN.ofJ {E : jx_E} {l : Launch} {y : MethodName} {cd : ByteArray} {nL : Nat} {d mc ms n : Nat} {kd : jx_K} {R : jx_R} {I : jx_I} {as : List Value} {Q : jx_Q} (own : String) (lv : List (Option Value)) (hy : plainName y.cls = true) (ho : y.cls = own) (hi : (y.name == "<init>") = true) (hn : (lg_sl as).length ≤ nL) (hlv : jx_args as ++ List.replicate (nL - (lg_sl as).length) none = lv)
    (k : jx_J E l cd nL none own true { frames := d, cells := mc, slots := ms, locals := 32 * d } mc ms Q 0 0 n kd R I 0 lv []) : jx_Ct E l y cd nL none d mc ms n kd R I as Q := by
  subst ho
  exact jx_Ct.ofJ true lv hy hi hn hlv k
set_option maxRecDepth 100000 in
set_option maxHeartbeats 4000000 in
theorem c_X0_init {E : jx_E} {l : Launch} {n : Nat} {kd : jx_K} {R : jx_R} {I : jx_I} {a : Nat} (hk : kd a = (0, 0)) (hI : I a = fun _ => 0) (hn : E.2.2.1 + n = a + 1) : jx_Ct E l yX0_init cX0_init 1 none 1 1 60 n kd R I [.ref a] (jx_QN (fun kd' R' I' => nFr a (a + 2) kd kd' R R' I I' ∧ sFl kd' R' a ∧ I' a = FL0)) := by
  refine jx_CtN.ofJ RX0 [some (.ref a)] (by decide) rfl rfl (Nat.le_of_ble_eq_true rfl) rfl ?_
  refine j_aload_n (pc' := 1) dX0_init_0 rfl rfl ?_
  refine j_objInit k_40 k_15 k_16 (Nat.le_of_ble_eq_true rfl) (Nat.le_of_ble_eq_true rfl) dX0_init_1 rfl ?_
  refine j_aload_n (pc' := 5) dX0_init_4 rfl rfl ?_
  refine j_bipush (pc' := 7) (v := nI 60) dX0_init_5 rfl rfl ?_
  refine j_newaIA (pc' := 9) (a := a + 1) (by omega) rfl (by decide) (Nat.le_of_ble_eq_true rfl) (Nat.le_of_ble_eq_true rfl) k_28 dX0_init_7 rfl ?_
  refine j_putRF (pc' := 12) f_X0_9 rfl (by intro C T N h; cases h; rfl) (by first | assumption | (simp (disch := omega) only [va_up_self, va_up_ne]; first | done | rfl | assumption)) rfl rfl dX0_init_9 rfl ?_
  refine j_aload_n (pc' := 13) dX0_init_12 rfl rfl ?_
  refine j_bipush (pc' := 15) (v := nI 10) dX0_init_13 rfl rfl ?_
  refine j_putI (pc' := 18) f_X0_15 (by first | assumption | (simp (disch := omega) only [va_up_self, va_up_ne]; first | done | rfl | assumption)) rfl rfl dX0_init_15 rfl ?_
  refine j_aload_n (pc' := 19) dX0_init_18 rfl rfl ?_
  refine j_iconst (pc' := 20) (v := nI 5) dX0_init_19 rfl rfl ?_
  refine j_putI (pc' := 23) f_X0_19 (by first | assumption | (simp (disch := omega) only [va_up_self, va_up_ne]; first | done | rfl | assumption)) rfl rfl dX0_init_20 rfl ?_
  refine j_aload_n (pc' := 24) dX0_init_23 rfl rfl ?_
  refine j_iconst (pc' := 25) (v := nI 2) dX0_init_24 rfl rfl ?_
  refine j_putI (pc' := 28) f_X0_22 (by first | assumption | (simp (disch := omega) only [va_up_self, va_up_ne]; first | done | rfl | assumption)) rfl rfl dX0_init_25 rfl ?_
  refine j_retvG dX0_init_28 rfl ?_
  refine ⟨rfl, ⟨fun z hz => ⟨by funext y; simp (disch := omega) only [jx_upRA, va_up_ne], by funext y; simp (disch := omega) only [jx_upA, va_up_ne]⟩, fun z hz => by simp (disch := omega) only [va_up_ne]⟩, ⟨(by first | (simp (disch := omega) only [va_up_self, va_up_ne, jx_upRS, jx_upRK, jx_upRA]; done) | (simp (disch := omega) only [va_up_self, va_up_ne, jx_upRS, jx_upRK, jx_upRA]; assumption)), (by first | (simp (disch := omega) only [va_up_self, va_up_ne, jx_upRS, jx_upRK, jx_upRA]; done) | (simp (disch := omega) only [va_up_self, va_up_ne, jx_upRS, jx_upRK, jx_upRA]; assumption)), (by first | (simp (disch := omega) only [va_up_self, va_up_ne, jx_upRS, jx_upRK, jx_upRA]; done) | (simp (disch := omega) only [va_up_self, va_up_ne, jx_upRS, jx_upRK, jx_upRA]; assumption))⟩, ?_⟩
  funext y
  simp (disch := omega) only [jx_up, va_up_ne, hI, if_pos]
  rfl
set_option maxRecDepth 100000 in
set_option maxHeartbeats 4000000 in
theorem c_X1_init {E : jx_E} {l : Launch} {n : Nat} {kd : jx_K} {R : jx_R} {I : jx_I} {a : Nat} (hk : kd a = (1, 0)) (hI : I a = fun _ => 0) (hn : E.2.2.1 + n = a + 1) : jx_Ct E l yX1_init cX1_init 1 none 1 3 90 n kd R I [.ref a] (jx_QN (fun kd' R' I' => nFr a (a + 4) kd kd' R R' I I' ∧ sLg kd' R' a ∧ I' a = (fun _ => 0) ∧ I' (a + 1) = (fun _ => 0) ∧ I' (a + 2) = (fun _ => 0) ∧ I' (a + 3) = (fun _ => 0))) := by
  refine jx_CtN.ofJ RX1 [some (.ref a)] (by decide) rfl rfl (Nat.le_of_ble_eq_true rfl) rfl ?_
  refine j_aload_n (pc' := 1) dX1_init_0 rfl rfl ?_
  refine j_objInit k_57 k_15 k_16 (Nat.le_of_ble_eq_true rfl) (Nat.le_of_ble_eq_true rfl) dX1_init_1 rfl ?_
  refine j_aload_n (pc' := 5) dX1_init_4 rfl rfl ?_
  refine j_bipush (pc' := 7) (v := nI 30) dX1_init_5 rfl rfl ?_
  refine j_newaIA (pc' := 9) (a := a + 1) (by omega) rfl (by decide) (Nat.le_of_ble_eq_true rfl) (Nat.le_of_ble_eq_true rfl) k_28 dX1_init_7 rfl ?_
  refine j_putRF (pc' := 12) f_X1_9 rfl (by intro C T N h; cases h; rfl) (by first | assumption | (simp (disch := omega) only [va_up_self, va_up_ne]; first | done | rfl | assumption)) rfl rfl dX1_init_9 rfl ?_
  refine j_aload_n (pc' := 13) dX1_init_12 rfl rfl ?_
  refine j_bipush (pc' := 15) (v := nI 30) dX1_init_13 rfl rfl ?_
  refine j_newaIA (pc' := 17) (a := a + 2) (by omega) rfl (by decide) (Nat.le_of_ble_eq_true rfl) (Nat.le_of_ble_eq_true rfl) k_28 dX1_init_15 rfl ?_
  refine j_putRF (pc' := 20) f_X1_15 rfl (by intro C T N h; cases h; rfl) (by first | assumption | (simp (disch := omega) only [va_up_self, va_up_ne]; first | done | rfl | assumption)) rfl rfl dX1_init_17 rfl ?_
  refine j_aload_n (pc' := 21) dX1_init_20 rfl rfl ?_
  refine j_bipush (pc' := 23) (v := nI 30) dX1_init_21 rfl rfl ?_
  refine j_newaIA (pc' := 25) (a := a + 3) (by omega) rfl (by decide) (Nat.le_of_ble_eq_true rfl) (Nat.le_of_ble_eq_true rfl) k_28 dX1_init_23 rfl ?_
  refine j_putRF (pc' := 28) f_X1_18 rfl (by intro C T N h; cases h; rfl) (by first | assumption | (simp (disch := omega) only [va_up_self, va_up_ne]; first | done | rfl | assumption)) rfl rfl dX1_init_25 rfl ?_
  refine j_retvG dX1_init_28 rfl ?_
  refine ⟨rfl, ⟨fun z hz => ⟨by funext y; simp (disch := omega) only [jx_upRA, va_up_ne], by funext y; simp (disch := omega) only [jx_upA, va_up_ne]⟩, fun z hz => by simp (disch := omega) only [va_up_ne]⟩, ⟨(by first | (simp (disch := omega) only [va_up_self, va_up_ne, jx_upRS, jx_upRK, jx_upRA]; done) | (simp (disch := omega) only [va_up_self, va_up_ne, jx_upRS, jx_upRK, jx_upRA]; assumption)), (by first | (simp (disch := omega) only [va_up_self, va_up_ne, jx_upRS, jx_upRK, jx_upRA]; done) | (simp (disch := omega) only [va_up_self, va_up_ne, jx_upRS, jx_upRK, jx_upRA]; assumption)), (by first | (simp (disch := omega) only [va_up_self, va_up_ne, jx_upRS, jx_upRK, jx_upRA]; done) | (simp (disch := omega) only [va_up_self, va_up_ne, jx_upRS, jx_upRK, jx_upRA]; assumption)), (by first | (simp (disch := omega) only [va_up_self, va_up_ne, jx_upRS, jx_upRK, jx_upRA]; done) | (simp (disch := omega) only [va_up_self, va_up_ne, jx_upRS, jx_upRK, jx_upRA]; assumption)), (by first | (simp (disch := omega) only [va_up_self, va_up_ne, jx_upRS, jx_upRK, jx_upRA]; done) | (simp (disch := omega) only [va_up_self, va_up_ne, jx_upRS, jx_upRK, jx_upRA]; assumption)), (by first | (simp (disch := omega) only [va_up_self, va_up_ne, jx_upRS, jx_upRK, jx_upRA]; done) | (simp (disch := omega) only [va_up_self, va_up_ne, jx_upRS, jx_upRK, jx_upRA]; assumption)), (by first | (simp (disch := omega) only [va_up_self, va_up_ne, jx_upRS, jx_upRK, jx_upRA]; done) | (simp (disch := omega) only [va_up_self, va_up_ne, jx_upRS, jx_upRK, jx_upRA]; assumption))⟩, ?_, ?_, ?_, ?_⟩
  · simp (disch := omega) only [va_up_ne]; exact hI
  · simp (disch := omega) only [va_up_ne, va_up_self]
  · simp (disch := omega) only [va_up_ne, va_up_self]
  · simp (disch := omega) only [va_up_ne, va_up_self]
set_option maxRecDepth 100000 in
set_option maxHeartbeats 4000000 in
theorem c_X2_init {E : jx_E} {l : Launch} {n : Nat} {kd : jx_K} {R : jx_R} {I : jx_I} {a : Nat} (hk : kd a = (2, 0)) (hI : I a = fun _ => 0) (hn : E.2.2.1 + n = a + 1) : jx_Ct E l yX2_init cX2_init 1 none 1 2 47 n kd R I [.ref a] (jx_QN (fun kd' R' I' => nFr a (a + 3) kd kd' R R' I I' ∧ sPt kd' R' a)) := by
  refine jx_CtN.ofJ RX2 [some (.ref a)] (by decide) rfl rfl (Nat.le_of_ble_eq_true rfl) rfl ?_
  refine j_aload_n (pc' := 1) dX2_init_0 rfl rfl ?_
  refine j_objInit k_66 k_15 k_16 (Nat.le_of_ble_eq_true rfl) (Nat.le_of_ble_eq_true rfl) dX2_init_1 rfl ?_
  refine j_aload_n (pc' := 5) dX2_init_4 rfl rfl ?_
  refine j_bipush (pc' := 7) (v := nI 7) dX2_init_5 rfl rfl ?_
  refine j_newaIA (pc' := 9) (a := a + 1) (by omega) rfl (by decide) (Nat.le_of_ble_eq_true rfl) (Nat.le_of_ble_eq_true rfl) k_28 dX2_init_7 rfl ?_
  refine j_putRF (pc' := 12) f_X2_9 rfl (by intro C T N h; cases h; rfl) (by first | assumption | (simp (disch := omega) only [va_up_self, va_up_ne]; first | done | rfl | assumption)) rfl rfl dX2_init_9 rfl ?_
  refine j_aload_n (pc' := 13) dX2_init_12 rfl rfl ?_
  refine j_bipush (pc' := 15) (v := nI 40) dX2_init_13 rfl rfl ?_
  refine j_newaIA (pc' := 17) (a := a + 2) (by omega) rfl (by decide) (Nat.le_of_ble_eq_true rfl) (Nat.le_of_ble_eq_true rfl) k_28 dX2_init_15 rfl ?_
  refine j_putRF (pc' := 20) f_X2_15 rfl (by intro C T N h; cases h; rfl) (by first | assumption | (simp (disch := omega) only [va_up_self, va_up_ne]; first | done | rfl | assumption)) rfl rfl dX2_init_17 rfl ?_
  refine j_retvG dX2_init_20 rfl ?_
  exact ⟨rfl, ⟨fun z hz => ⟨by funext y; simp (disch := omega) only [jx_upRA, va_up_ne], by funext y; simp (disch := omega) only [jx_upA, va_up_ne]⟩, fun z hz => by simp (disch := omega) only [va_up_ne]⟩, (by first | (simp (disch := omega) only [va_up_self, va_up_ne, jx_upRS, jx_upRK, jx_upRA]; done) | (simp (disch := omega) only [va_up_self, va_up_ne, jx_upRS, jx_upRK, jx_upRA]; assumption)), (by first | (simp (disch := omega) only [va_up_self, va_up_ne, jx_upRS, jx_upRK, jx_upRA]; done) | (simp (disch := omega) only [va_up_self, va_up_ne, jx_upRS, jx_upRK, jx_upRA]; assumption)), (by first | (simp (disch := omega) only [va_up_self, va_up_ne, jx_upRS, jx_upRK, jx_upRA]; done) | (simp (disch := omega) only [va_up_self, va_up_ne, jx_upRS, jx_upRK, jx_upRA]; assumption)), (by first | (simp (disch := omega) only [va_up_self, va_up_ne, jx_upRS, jx_upRK, jx_upRA]; done) | (simp (disch := omega) only [va_up_self, va_up_ne, jx_upRS, jx_upRK, jx_upRA]; assumption)), (by first | (simp (disch := omega) only [va_up_self, va_up_ne, jx_upRS, jx_upRK, jx_upRA]; done) | (simp (disch := omega) only [va_up_self, va_up_ne, jx_upRS, jx_upRK, jx_upRA]; assumption))⟩
set_option maxRecDepth 100000 in
set_option maxHeartbeats 4000000 in
theorem c_X3_init {E : jx_E} {l : Launch} {n : Nat} {kd : jx_K} {R : jx_R} {I : jx_I} {a : Nat} (hk : kd a = (3, 0)) (hI : I a = fun _ => 0) (hn : E.2.2.1 + n = a + 1) : jx_Ct E l yX3_init cX3_init 1 none 1 4 122 n kd R I [.ref a] (jx_QN (fun kd' R' I' => nFr a (a + 5) kd kd' R R' I I' ∧ sSc kd' R' a ∧ I' a = (fun _ => 0) ∧ I' (a + 1) = (fun _ => 0))) := by
  refine jx_CtN.ofJ RX3 [some (.ref a)] (by decide) rfl rfl (Nat.le_of_ble_eq_true rfl) rfl ?_
  refine j_aload_n (pc' := 1) dX3_init_0 rfl rfl ?_
  refine j_objInit k_21 k_15 k_16 (Nat.le_of_ble_eq_true rfl) (Nat.le_of_ble_eq_true rfl) dX3_init_1 rfl ?_
  refine j_aload_n (pc' := 5) dX3_init_4 rfl rfl ?_
  refine j_bipush (pc' := 7) (v := nI 80) dX3_init_5 rfl rfl ?_
  refine j_newaCA (pc' := 9) (a := a + 1) (by omega) rfl (by decide) (Nat.le_of_ble_eq_true rfl) (Nat.le_of_ble_eq_true rfl) k_27 dX3_init_7 rfl ?_
  refine j_putRF (pc' := 12) f_X3_11 rfl (by intro C T N h; cases h; rfl) (by first | assumption | (simp (disch := omega) only [va_up_self, va_up_ne]; first | done | rfl | assumption)) rfl rfl dX3_init_9 rfl ?_
  refine j_aload_n (pc' := 13) dX3_init_12 rfl rfl ?_
  refine j_bipush (pc' := 15) (v := nI 14) dX3_init_13 rfl rfl ?_
  refine j_newaIA (pc' := 17) (a := a + 2) (by omega) rfl (by decide) (Nat.le_of_ble_eq_true rfl) (Nat.le_of_ble_eq_true rfl) k_28 dX3_init_15 rfl ?_
  refine j_putRF (pc' := 20) f_X3_15 rfl (by intro C T N h; cases h; rfl) (by first | assumption | (simp (disch := omega) only [va_up_self, va_up_ne]; first | done | rfl | assumption)) rfl rfl dX3_init_17 rfl ?_
  refine j_aload_n (pc' := 21) dX3_init_20 rfl rfl ?_
  refine j_bipush (pc' := 23) (v := nI 14) dX3_init_21 rfl rfl ?_
  refine j_newaIA (pc' := 25) (a := a + 3) (by omega) rfl (by decide) (Nat.le_of_ble_eq_true rfl) (Nat.le_of_ble_eq_true rfl) k_28 dX3_init_23 rfl ?_
  refine j_putRF (pc' := 28) f_X3_19 rfl (by intro C T N h; cases h; rfl) (by first | assumption | (simp (disch := omega) only [va_up_self, va_up_ne]; first | done | rfl | assumption)) rfl rfl dX3_init_25 rfl ?_
  refine j_aload_n (pc' := 29) dX3_init_28 rfl rfl ?_
  refine j_bipush (pc' := 31) (v := nI 14) dX3_init_29 rfl rfl ?_
  refine j_newaIA (pc' := 33) (a := a + 4) (by omega) rfl (by decide) (Nat.le_of_ble_eq_true rfl) (Nat.le_of_ble_eq_true rfl) k_28 dX3_init_31 rfl ?_
  refine j_putRF (pc' := 36) f_X3_22 rfl (by intro C T N h; cases h; rfl) (by first | assumption | (simp (disch := omega) only [va_up_self, va_up_ne]; first | done | rfl | assumption)) rfl rfl dX3_init_33 rfl ?_
  refine j_retvG dX3_init_36 rfl ?_
  refine ⟨rfl, ⟨fun z hz => ⟨by funext y; simp (disch := omega) only [jx_upRA, va_up_ne], by funext y; simp (disch := omega) only [jx_upA, va_up_ne]⟩, fun z hz => by simp (disch := omega) only [va_up_ne]⟩, ⟨(by first | (simp (disch := omega) only [va_up_self, va_up_ne, jx_upRS, jx_upRK, jx_upRA]; done) | (simp (disch := omega) only [va_up_self, va_up_ne, jx_upRS, jx_upRK, jx_upRA]; assumption)), (by first | (simp (disch := omega) only [va_up_self, va_up_ne, jx_upRS, jx_upRK, jx_upRA]; done) | (simp (disch := omega) only [va_up_self, va_up_ne, jx_upRS, jx_upRK, jx_upRA]; assumption)), (by first | (simp (disch := omega) only [va_up_self, va_up_ne, jx_upRS, jx_upRK, jx_upRA]; done) | (simp (disch := omega) only [va_up_self, va_up_ne, jx_upRS, jx_upRK, jx_upRA]; assumption)), (by first | (simp (disch := omega) only [va_up_self, va_up_ne, jx_upRS, jx_upRK, jx_upRA]; done) | (simp (disch := omega) only [va_up_self, va_up_ne, jx_upRS, jx_upRK, jx_upRA]; assumption)), (by first | (simp (disch := omega) only [va_up_self, va_up_ne, jx_upRS, jx_upRK, jx_upRA]; done) | (simp (disch := omega) only [va_up_self, va_up_ne, jx_upRS, jx_upRK, jx_upRA]; assumption)), (by first | (simp (disch := omega) only [va_up_self, va_up_ne, jx_upRS, jx_upRK, jx_upRA]; done) | (simp (disch := omega) only [va_up_self, va_up_ne, jx_upRS, jx_upRK, jx_upRA]; assumption)), (by first | (simp (disch := omega) only [va_up_self, va_up_ne, jx_upRS, jx_upRK, jx_upRA]; done) | (simp (disch := omega) only [va_up_self, va_up_ne, jx_upRS, jx_upRK, jx_upRA]; assumption)), (by first | (simp (disch := omega) only [va_up_self, va_up_ne, jx_upRS, jx_upRK, jx_upRA]; done) | (simp (disch := omega) only [va_up_self, va_up_ne, jx_upRS, jx_upRK, jx_upRA]; assumption)), (by first | (simp (disch := omega) only [va_up_self, va_up_ne, jx_upRS, jx_upRK, jx_upRA]; done) | (simp (disch := omega) only [va_up_self, va_up_ne, jx_upRS, jx_upRK, jx_upRA]; assumption))⟩, ?_, ?_⟩
  · simp (disch := omega) only [va_up_ne]; exact hI
  · simp (disch := omega) only [va_up_ne, va_up_self]
def v00 : Nat → Int32 := upd (upd (upd (fun _ => 0) 5 (nI 10)) 6 (nI 5)) 7 (nI 2)
