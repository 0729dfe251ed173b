/-! ===== the law: its own script, doubles ===== -/
abbrev scA (E : jx_E) : Nat := E.2.2.2.1 12
abbrev scL (E : jx_E) : Nat := E.2.2.2.2.1
abbrev scX (E : jx_E) : Nat → Int32 := E.2.2.2.2.2
theorem j_sld {E : jx_E} {l : Launch} {cd : ByteArray} {nL : Nat} {ret : Option FieldType} {own : String} {ini : Bool} {Rm : Room} {mc ms : Nat} {Q : jx_Q} {cells slots n : Nat} {kd : jx_K} {R : jx_R} {I : jx_I} {pc pc' : Nat} {lv : List (Option Value)} {st : List Value} {j : Nat} {i : Int32} (hi : i = nI j) (hj : j < scL E) (hL : scL E ≤ 2048) (hd : decode cd pc = .ok (.iaload, 1)) (hp : pc + 1 = pc') (k : jx_J E l cd nL ret own ini Rm mc ms Q cells slots n kd R I pc' lv (.int (scX E j) :: st)) : jx_J E l cd nL ret own ini Rm mc ms Q cells slots n kd R I pc lv (.int i :: .ref (scA E) :: st) := by
  subst hi
  subst hp
  intro p e s m args below meth c Z X hZ H locs ls hN hW hS hl
  have hE := X.2.2.2.2.2.2.2.2.1.2.2.2.2.2.2.2.2.2.2.2
  refine va_sld X.1 X.2.1 hE.1 hE.2.1 hE.2.2 hS (vp_in_nI hj (Nat.lt_of_le_of_lt hL (by decide))) hd ?_
  rw [nI_clamp (Nat.lt_of_lt_of_le hj (Nat.le_trans hL (by decide)))]
  exact k p e s m args below meth c Z X hZ H locs ls hN hW hS hl
theorem j_slen {E : jx_E} {l : Launch} {cd : ByteArray} {nL : Nat} {ret : Option FieldType} {own : String} {ini : Bool} {Rm : Room} {mc ms : Nat} {Q : jx_Q} {cells slots n : Nat} {kd : jx_K} {R : jx_R} {I : jx_I} {pc pc' : Nat} {lv : List (Option Value)} {st : List Value} (hd : decode cd pc = .ok (.arraylength, 1)) (hp : pc + 1 = pc') (k : jx_J E l cd nL ret own ini Rm mc ms Q cells slots n kd R I pc' lv (.int (nI (scL E)) :: st)) : jx_J E l cd nL ret own ini Rm mc ms Q cells slots n kd R I pc lv (.ref (scA E) :: st) := by
  subst hp
  intro p e s m args below meth c Z X hZ H locs ls hN hW hS hl
  have hE := X.2.2.2.2.2.2.2.2.1.2.2.2.2.2.2.2.2.2.2.2
  exact va_slen X.1 X.2.1 hE.1 hE.2.1 hE.2.2 hS hd (k p e s m args below meth c Z X hZ H locs ls hN hW hS hl)
theorem j_f2d {E : jx_E} {l : Launch} {cd : ByteArray} {nL : Nat} {ret : Option FieldType} {own : String} {ini : Bool} {Rm : Room} {mc ms : Nat} {Q : jx_Q} {cells slots n : Nat} {kd : jx_K} {R : jx_R} {I : jx_I} {pc pc' : Nat} {lv : List (Option Value)} {st : List Value} {x : UInt32} (hd : decode cd pc = .ok (.f2d, 1)) (hp : pc + 1 = pc') (hne : vf_n64 (FP.f2d x)) (k : jx_J E l cd nL ret own ini Rm mc ms Q cells slots n kd R I pc' lv (.double (FP.f2d x) :: st)) : jx_J E l cd nL ret own ini Rm mc ms Q cells slots n kd R I pc lv (.float x :: st) := by
  subst hp
  intro p e s m args below meth c Z X hZ H locs ls hN hW hS hl
  exact lv_f2d X.1 X.2.1 hd hne (k p e s m args below meth c Z X hZ H locs ls hN hW hS hl)
theorem j_dcmp {E : jx_E} {l : Launch} {cd : ByteArray} {nL : Nat} {ret : Option FieldType} {own : String} {ini : Bool} {Rm : Room} {mc ms : Nat} {Q : jx_Q} {cells slots n : Nat} {kd : jx_K} {R : jx_R} {I : jx_I} {pc pc' : Nat} {lv : List (Option Value)} {st : List Value} {x y : UInt64} {op : CmpOp} (hd : decode cd pc = .ok (.dcmp op, 1)) (hp : pc + 1 = pc') (k : jx_J E l cd nL ret own ini Rm mc ms Q cells slots n kd R I pc' lv (.int (Op.cmpValue (FP.dcmp x y) op) :: st)) : jx_J E l cd nL ret own ini Rm mc ms Q cells slots n kd R I pc lv (.double y :: .double x :: st) := by
  subst hp
  intro p e s m args below meth c Z X hZ H locs ls hN hW hS hl
  exact lv_dcmp X.1 X.2.1 hd (k p e s m args below meth c Z X hZ H locs ls hN hW hS hl)
theorem j_dload {E : jx_E} {l : Launch} {cd : ByteArray} {nL : Nat} {ret : Option FieldType} {own : String} {ini : Bool} {Rm : Room} {mc ms : Nat} {Q : jx_Q} {cells slots n : Nat} {kd : jx_K} {R : jx_R} {I : jx_I} {pc pc' : Nat} {lv : List (Option Value)} {st : List Value} {i : Nat} {x : UInt64} (hd : decode cd pc = .ok (.dload i, 2)) (hp : pc + 2 = pc') (hi : lv[i]? = some (some (.double x))) (k : jx_J E l cd nL ret own ini Rm mc ms Q cells slots n kd R I pc' lv (.double x :: st)) : jx_J E l cd nL ret own ini Rm mc ms Q cells slots n kd R I pc lv (st) := by
  subst hp
  intro p e s m args below meth c Z X hZ H locs ls hN hW hS hl
  exact lv_dload X.1 X.2.1 hd (jx_Lat hl hi) (k p e s m args below meth c Z X hZ H locs ls hN hW hS hl)
theorem j_dstore {E : jx_E} {l : Launch} {cd : ByteArray} {nL : Nat} {ret : Option FieldType} {own : String} {ini : Bool} {Rm : Room} {mc ms : Nat} {Q : jx_Q} {cells slots n : Nat} {kd : jx_K} {R : jx_R} {I : jx_I} {pc pc' : Nat} {lv : List (Option Value)} {st : List Value} {i : Nat} {x : UInt64} {lv' : List (Option Value)} (hd : decode cd pc = .ok (.dstore i, 2)) (hp : pc + 2 = pc') (hn : i + 1 < nL) (hi : jx_st2 lv i (.double x) = lv') (k : jx_J E l cd nL ret own ini Rm mc ms Q cells slots n kd R I pc' lv' (st)) : jx_J E l cd nL ret own ini Rm mc ms Q cells slots n kd R I pc lv (.double x :: st) := by
  subst hi
  subst hp
  intro p e s m args below meth c Z X hZ H locs ls hN hW hS hl
  exact lv_dstore X.1 X.2.1 hd hl hn rfl (fun ls' hl' => k p e s m args below meth c Z X hZ H locs ls' hN hW hS (jx_Lst2 hl'))
/-! ===== the two objects, side by side ===== -/
def jx_QL : jx_Q := fun v _ _ _ _ => v = some (.int 1)
def LJ (kd : jx_K) (R : jx_R) (I : jx_I) (d m B : Nat) : Prop := ∃ P q L, sDk kd R d P ∧ sMd kd R m ∧ dM I d P (I (m + 1)) (I (m + 3)) q B ∧ scI d I (I (m + 5)) L ∧ I m 3 = nI q ∧ I m 7 = nI L
theorem mI_at {I I1 : jx_I} {m : Nat} (e : ∀ z, m ≤ z → I1 z = I z) : I1 = mI I1 m (I m) (I (m + 1)) (I (m + 2)) (I (m + 3)) (I (m + 4)) (I (m + 5)) (I (m + 6)) := by
  rw [← e m (by omega), ← e (m + 1) (by omega), ← e (m + 2) (by omega), ← e (m + 3) (by omega), ← e (m + 4) (by omega), ← e (m + 5) (by omega), ← e (m + 6) (by omega)]
  exact (mI_eta I1 m).symm
theorem sMd.cg {kd : jx_K} {R R1 : jx_R} {d m : Nat} (h : sMd kd R m) (e : rFr d R R1) (hd : d + 344 ≤ m) : sMd kd R1 m := by
  unfold sMd at *
  rw [e m (by omega) (by omega)]
  exact h
theorem dM.lo {kd : jx_K} {R : jx_R} {d : Nat} {P : Nat → Nat} {I I1 : jx_I} {w p : Nat → Int32} {q B : Nat} (hs : sDk kd R d P) (h : dM I d P w p q B) (e : ∀ z, z < d + 344 → I1 z = I z) : dM I1 d P w p q B := by
  obtain ⟨h3, hq, h4, hp⟩ := h
  have fr : ∀ i, i < 6 → ∀ z, stA d (P i) ≤ z → z < stA d (P i) + 56 → I1 z = I z := fun i hi z a b => e z (by have := hs.hi hi; omega)
  exact ⟨by rw [e d (by omega)]; exact h3, hq, h4.fr (fr 4 (by omega)), fun j hj => (hp j hj).fr (fr j (by omega))⟩
theorem scI.lo {d m : Nat} {I I1 : jx_I} {t : Nat → Int32} {L : Nat} (h : scI d I t L) (e : ∀ z, d < z → z < d + 6 → I1 z = I z) : scI d I1 t L := h.fr e
theorem LJ.mk {kd : jx_K} {R R1 : jx_R} {I1 : jx_I} {d m B q L : Nat} {P1 : Nat → Nat} {F v a p o t c : Nat → Int32} (hdm : d + 344 ≤ m) (hs : sDk kd R1 d P1) (hm : sMd kd R m) (hr : rFr d R R1) (hM : dM I1 d P1 v p q B) (hS : scI d I1 t L) (h3 : F 3 = nI q) (h7 : F 7 = nI L) : LJ kd R1 (mI I1 m F v a p o t c) d m B := by
  refine ⟨P1, q, L, hs, hm.cg hr hdm, ?_, ?_, ?_, ?_⟩
  · rw [mI_1, mI_3]; exact hM.lo hs (fun z hz => mI_ne (by omega))
  · rw [mI_5]; exact hS.fr (fun z h1 h2 => mI_ne (by omega))
  · rw [mI_0]; exact h3
  · rw [mI_0]; exact h7
theorem LJ.mono {kd : jx_K} {R : jx_R} {I : jx_I} {d m B B1 : Nat} (h : LJ kd R I d m B) (hB : B ≤ B1) : LJ kd R I d m B1 := by
  obtain ⟨P, q, L, h1, h2, h3, h4, h5, h6⟩ := h
  exact ⟨P, q, L, h1, h2, h3.mono hB, h4, h5, h6⟩
theorem eqR_cp {v a : Nat → Int32} : eqR (cpA v a) v := fun j hj => by unfold cpA; rw [if_pos hj]
theorem eqR.r {v : Nat → Int32} : eqR v v := fun _ _ => rfl
/-- an act that the reference settles by its answer -/
theorem LJ.A {kd : jx_K} {R R1 : jx_R} {I1 : jx_I} {d m B q L : Nat} {P1 : Nat → Nat} {F v w a p o t c : Nat → Int32} {x : Int32} (hdm : d + 344 ≤ m) (hs : sDk kd R1 d P1) (hm : sMd kd R m) (hr : rFr d R R1) (g4 : x ≤ -20001 → dM I1 d P1 w p q B) (g5 : ¬ x ≤ -20001 → ∀ u, eqR u v → dM I1 d P1 w (kpP p q u) (kpC q) B) (hie : isE x = decide (x ≤ -20001)) (hS : scI d I1 t L) (h3 : F 3 = nI q) (h7 : F 7 = nI L) : LJ kd R1 (if isE x = true then mI I1 m F w (cpA v a) p o t c else mI I1 m (upd F 3 (nI (kpC q))) w (cpA v a) (kpP p q (cpA v a)) o t c) d m B := by
  rw [hie]
  by_cases h : x ≤ -20001
  · rw [if_pos (decide_eq_true h)]
    exact LJ.mk hdm hs hm hr (g4 h) hS h3 h7
  · rw [if_neg (fun z => h (of_decide_eq_true z))]
    exact LJ.mk hdm hs hm hr (g5 h _ eqR_cp) hS pk_us ((pk_un (by decide)).trans h7)
/-- an act that the reference settles by a condition -/
theorem LJ.C {kd : jx_K} {R R1 : jx_R} {I1 : jx_I} {d m B q L : Nat} {P1 : Nat → Nat} {F v w w1 a p o t c : Nat → Int32} {x : Int32} {C : Prop} [Decidable C] (hdm : d + 344 ≤ m) (hs : sDk kd R1 d P1) (hm : sMd kd R m) (hr : rFr d R R1) (g4 : x ≤ -20001 → dM I1 d P1 w p q B) (g5 : ¬ x ≤ -20001 → ∀ u, eqR u v → dM I1 d P1 w (kpP p q u) (kpC q) B) (h1 : C → ¬ x ≤ -20001 ∧ w = w1) (h2 : ¬ C → x ≤ -20001 ∧ w = v) (hS : scI d I1 t L) (h3 : F 3 = nI q) (h7 : F 7 = nI L) : LJ kd R1 (if C then mI I1 m (upd F 3 (nI (kpC q))) w1 a (kpP p q v) o t c else mI I1 m F v a p o t c) d m B := by
  by_cases h : C
  · rw [if_pos h]
    obtain ⟨e1, e2⟩ := h1 h
    rw [← e2]
    exact LJ.mk hdm hs hm hr (g5 e1 _ eqR.r) hS pk_us ((pk_un (by decide)).trans h7)
  · rw [if_neg h]
    obtain ⟨e1, e2⟩ := h2 h
    have := g4 e1
    rw [e2] at this
    exact LJ.mk hdm hs hm hr this hS h3 h7
theorem gt_n {x : Int32} (h : (-20001 : Int32) < x) : ¬ x ≤ -20001 := Int32.not_le.mpr h
theorem okS_n {s x : Int32} (h : okS s x = true) : (-20001 : Int32) < x := by
  have e1 : (-20001 : Int32).toInt = -20001 := rfl
  have e2 : (nI 0).toInt = 0 := rfl
  have e3 : (nI 1).toInt = 1 := rfl
  unfold okS at h
  repeat' split at h
  any_goals (first | exact ie_okV h | exact absurd h Bool.false_ne_true | skip)
  all_goals (have h2 := (of_decide_eq_true h).1; simp only [Int32.lt_iff_toInt_lt, Int32.le_iff_toInt_le] at *; omega)
theorem fList_cg {v o o' : Nat → Int32} {k : Nat} {x : Int32} : fList v o k x = fList v o' k x := by
  have h := lsF_cg (v := v) (o := o) (o' := o') k
  have hk := (lsF_ok (v := v) (o := o) k).1
  unfold fList
  rw [← h.1]
  by_cases h0 : 0 ≤ x
  · rw [if_pos h0, if_pos h0]
    by_cases h1 : x < nI (lsF v o k).2
    · rw [if_pos h1, if_pos h1]
      obtain ⟨j, hj, rfl⟩ := nI_of (Int32.not_lt.mpr h0)
      rw [nI_clamp hj]
      by_cases hb : (lsF v o k).2 < 2147483648
      · exact h.2 j ((nI_ltI hj hb).mp h1)
      · exact h.2 j (by have : j < 2147483648 := hj; omega)
    · rw [if_neg h1, if_neg h1]
  · rw [if_neg h0, if_neg h0]
