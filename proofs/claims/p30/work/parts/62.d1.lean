/-! ===== the desk: contracts that turn references ===== -/
def jx_QR (n : Nat) (kd : jx_K) (P : Int32 → jx_R → jx_I → Prop) : jx_Q := fun v n' kd' R' I' => n' = n ∧ kd' = kd ∧ ∃ x : Int32, v = some (.int x) ∧ P x R' I'
def jx_QV (n : Nat) (kd : jx_K) (P : jx_R → jx_I → Prop) : jx_Q := fun v n' kd' R' I' => n' = n ∧ kd' = kd ∧ v = none ∧ P R' I'
def jx_CiR (E : jx_E) (l : Launch) (y : MethodName) (cd : ByteArray) (nL : Nat) (ret : Option FieldType) (d n : Nat) (kd : jx_K) (R : jx_R) (I : jx_I) (as : List Value) (P : Int32 → jx_R → jx_I → Prop) : Prop := jx_Ct E l y cd nL ret d 0 0 n kd R I as (jx_QR n kd P)
def jx_CvR (E : jx_E) (l : Launch) (y : MethodName) (cd : ByteArray) (nL : Nat) (ret : Option FieldType) (d n : Nat) (kd : jx_K) (R : jx_R) (I : jx_I) (as : List Value) (P : jx_R → jx_I → Prop) : Prop := jx_Ct E l y cd nL ret d 0 0 n kd R I as (jx_QV n kd P)
theorem jx_CtR.ofJ {E : jx_E} {l : Launch} {y : MethodName} {cd : ByteArray} {nL : Nat} {ret : Option FieldType} {d n : Nat} {kd : jx_K} {R : jx_R} {I : jx_I} {as : List Value} {Q : jx_Q} (own : String) (lv : List (Option Value)) (hy : plainName y.cls = true) (ho : y.cls = own) (hi : (y.name == "<init>") = false) (hn : (lg_sl as).length ≤ nL) (hlv : jx_args as ++ List.replicate (nL - (lg_sl as).length) none = lv)
    (k : jx_J E l cd nL ret own false (jx_rm d) 0 0 Q 0 0 n kd R I 0 lv []) : jx_Ct E l y cd nL ret d 0 0 n kd R I as Q := by
  subst ho
  exact jx_Ct.ofJ false lv hy hi hn hlv k
theorem j_cViR {E : jx_E} {l : Launch} {cd : ByteArray} {nL : Nat} {ret : Option FieldType} {own : String} {ini : Bool} {Rm : Room} {mc ms : Nat} {Q : jx_Q} {cells slots n : Nat} {kd : jx_K} {R : jx_R} {I : jx_I} {pc pc' : Nat} {lv : List (Option Value)} {st : List Value} {y : MethodName} {cd1 : ByteArray} {nL1 ix k1 d1 : Nat} {ret1 : Option FieldType} {As rest : List Value} {C : String} {T : u_T} {b ci mm N : Nat} {P : Int32 → jx_R → jx_I → Prop} (hm : jx_mV own ix C y cd1 nL1 ret1 k1) (hC : jx_CiR E l y cd1 nL1 ret1 d1 n kd R I (.ref b :: As) P) (hk : kd b = (ci, mm)) (hc7 : ci < 7) (hc : vwCl[ci]? = some (C, T, N)) (hs : As.reverse ++ .ref b :: rest = st) (hl1 : As.length = k1) (hR : d1 + 1 ≤ Rm.frames ∧ 8 + (nL1 + 11) + 32 * d1 ≤ Rm.locals) (hf : cells ≤ Rm.cells ∧ slots ≤ Rm.slots) (hcat : (rest.map fun v => v.category).sum ≤ 8) (hd : decode cd pc = .ok (.invokevirtual ix, 3)) (hp : pc + 3 = pc') (k : ∀ (x : Int32) (R1 : jx_R) (I1 : jx_I), P x R1 I1 → jx_J E l cd nL ret own ini Rm mc ms Q cells slots n kd R1 I1 pc' lv (.int x :: rest)) : jx_J E l cd nL ret own ini Rm mc ms Q cells slots n kd R I pc lv st :=
  j_callV hm hC hk hc7 hc hs hl1 hR hf hcat hd hp (fun v n1 kd1 R1 I1 h _ => by
    obtain ⟨rfl, rfl, x, rfl, h⟩ := h
    exact k x R1 I1 h)
theorem j_cVvR {E : jx_E} {l : Launch} {cd : ByteArray} {nL : Nat} {ret : Option FieldType} {own : String} {ini : Bool} {Rm : Room} {mc ms : Nat} {Q : jx_Q} {cells slots n : Nat} {kd : jx_K} {R : jx_R} {I : jx_I} {pc pc' : Nat} {lv : List (Option Value)} {st : List Value} {y : MethodName} {cd1 : ByteArray} {nL1 ix k1 d1 : Nat} {ret1 : Option FieldType} {As rest : List Value} {C : String} {T : u_T} {b ci mm N : Nat} {P : jx_R → jx_I → Prop} (hm : jx_mV own ix C y cd1 nL1 ret1 k1) (hC : jx_CvR E l y cd1 nL1 ret1 d1 n kd R I (.ref b :: As) P) (hk : kd b = (ci, mm)) (hc7 : ci < 7) (hc : vwCl[ci]? = some (C, T, N)) (hs : As.reverse ++ .ref b :: rest = st) (hl1 : As.length = k1) (hR : d1 + 1 ≤ Rm.frames ∧ 8 + (nL1 + 11) + 32 * d1 ≤ Rm.locals) (hf : cells ≤ Rm.cells ∧ slots ≤ Rm.slots) (hcat : (rest.map fun v => v.category).sum ≤ 8) (hd : decode cd pc = .ok (.invokevirtual ix, 3)) (hp : pc + 3 = pc') (k : ∀ (R1 : jx_R) (I1 : jx_I), P R1 I1 → jx_J E l cd nL ret own ini Rm mc ms Q cells slots n kd R1 I1 pc' lv rest) : jx_J E l cd nL ret own ini Rm mc ms Q cells slots n kd R I pc lv st :=
  j_callV hm hC hk hc7 hc hs hl1 hR hf hcat hd hp (fun v n1 kd1 R1 I1 h _ => by
    obtain ⟨rfl, rfl, rfl, h⟩ := h
    exact k R1 I1 h)
theorem j_retiR {E : jx_E} {l : Launch} {cd : ByteArray} {nL : Nat} {ret : Option FieldType} {own : String} {ini : Bool} {Rm : Room} {n : Nat} {kd : jx_K} {R : jx_R} {I : jx_I} {pc : Nat} {lv : List (Option Value)} {P : Int32 → jx_R → jx_I → Prop} {x : Int32} {ty : FieldType} (hd : decode cd pc = .ok (.ireturn, 1)) (hr : ret = some ty) (hn : narrow ty (.int x) = .int x) (h : P x R I) : jx_J E l cd nL ret own ini Rm 0 0 (jx_QR n kd P) 0 0 n kd R I pc lv [.int x] :=
  j_ireturn hd hr hn ⟨rfl, rfl, x, rfl, h⟩
theorem j_retvR {E : jx_E} {l : Launch} {cd : ByteArray} {nL : Nat} {ret : Option FieldType} {own : String} {ini : Bool} {Rm : Room} {n : Nat} {kd : jx_K} {R : jx_R} {I : jx_I} {pc : Nat} {lv : List (Option Value)} {P : jx_R → jx_I → Prop} (hd : decode cd pc = .ok (.return_, 1)) (hr : ret = none) (h : P R I) : jx_J E l cd nL ret own ini Rm 0 0 (jx_QV n kd P) 0 0 n kd R I pc lv [] :=
  j_return hd hr ⟨rfl, rfl, rfl, h⟩
/-! ===== the desk: its shape, its history ===== -/
def stA (d i : Nat) : Nat := d + 8 + 56 * i
def prw (p : Nat → Int32) (j : Nat) : Nat → Int32 := fun z => p (1080 * j + z)
def VX (v : Nat → Int32) (k : Nat) : Prop := (∀ i, i < k → okV (v (176 + 56 * i + 7)) = true) ∧ (∃ a, a ≤ 50 ∧ v 6 = nI a) ∧ ∃ a, a ≤ 50 ∧ v 7 = nI a
def hR (I : jx_I) (a : Nat) (v : Nat → Int32) (B : Nat) : Prop := ∃ k T S N, aSt I a v k T ∧ VI v k T S N ∧ N ≤ B ∧ VX v k
def sDk (kd : jx_K) (R : jx_R) (d : Nat) (P : Nat → Nat) : Prop := kd d = (5, 0) ∧ kd (d + 6) = (7, 16) ∧ kd (d + 7) = (10, 4) ∧ R d 0 = some (d + 1) ∧ R d 1 = some (d + 6) ∧ R d 2 = some (d + 7) ∧ R d 4 = some (stA d (P 4)) ∧ R d 5 = some (stA d (P 5)) ∧ (∀ j, j < 4 → R (d + 7) j = some (stA d (P j))) ∧ sSc kd R (d + 1) ∧ (∀ i, i < 6 → sSt kd R (stA d i)) ∧ (∀ j, j < 6 → P j < 6) ∧ (∀ i j, i < 6 → j < 6 → P i = P j → i = j)
/-- now is the row w, the history the first q rows of p; no row has more than B events -/
def dM (I : jx_I) (d : Nat) (P : Nat → Nat) (w p : Nat → Int32) (q B : Nat) : Prop := I d 3 = nI q ∧ q ≤ 4 ∧ hR I (stA d (P 4)) w B ∧ ∀ j, j < q → hR I (stA d (P j)) (prw p j) B
def dN (I : jx_I) (d : Nat) (P : Nat → Nat) (u w p : Nat → Int32) (q B : Nat) : Prop := dM I d P w p q B ∧ hR I (stA d (P 5)) u B
def dFr (d : Nat) (I I1 : jx_I) : Prop := ∀ z, z ≠ d → z ≠ d + 6 → z < d + 8 ∨ d + 344 ≤ z → I1 z = I z
def rFr (d : Nat) (R R1 : jx_R) : Prop := ∀ z, z ≠ d → z ≠ d + 7 → R1 z = R z
def eqR (u v : Nat → Int32) : Prop := ∀ j, j < 1080 → u j = v j
theorem dFr.r {d : Nat} {I : jx_I} : dFr d I I := fun _ _ _ _ => rfl
theorem dFr.t {d : Nat} {I I1 I2 : jx_I} (h1 : dFr d I I1) (h2 : dFr d I1 I2) : dFr d I I2 := fun z a b c => (h2 z a b c).trans (h1 z a b c)
theorem rFr.r {d : Nat} {R : jx_R} : rFr d R R := fun _ _ _ => rfl
theorem VI.cg {v u : Nat → Int32} {k T S N : Nat} (h : VI v k T S N) (e : eqR u v) : VI u k T S N := by
  have h16 := h.k16
  obtain ⟨rk, hrk⟩ := h.r
  refine ⟨(e 0 (by omega)).trans h.z, h16, (e 1 (by omega)).trans h.t, h.tl, ?_, ?_, (e 5 (by omega)).trans h.s, h.sl, (e 9 (by omega)).trans h.n, fun i hi w hw => ?_, rk, fun i hi => ?_⟩
  · obtain ⟨q, a, b⟩ := h.m; exact ⟨q, a, (e 2 (by omega)).trans b⟩
  · obtain ⟨b, hb⟩ := h.f; exact ⟨b, (e 3 (by omega)).trans hb⟩
  · rw [e _ (by omega)]; exact h.p hi w hw
  · have := hrk i hi
    rw [e _ (by omega)]; exact this
theorem aSt.cg {I : jx_I} {a : Nat} {v u : Nat → Int32} {k T : Nat} (h : aSt I a v k T) (h16 : k ≤ 16) (e : eqR u v) : aSt I a u k T := by
  obtain ⟨⟨a1, a2, a3, a4, a5, a6⟩, ⟨b1, b2, b3, b4, b5⟩, hr, hl, hp⟩ := h
  refine ⟨⟨?_, ?_, ?_, ?_, ?_, ?_⟩, ⟨?_, ?_, ?_, ?_, ?_⟩, fun t h1 h2 h3 => ?_, ⟨?_, fun j hj => ?_⟩, fun i hi => ?_⟩
  any_goals (rw [e _ (by omega)]; assumption)
  · rw [e _ (by omega)]; exact hr t h1 h2 h3
  · rw [e _ (by omega)]; exact hl.1
  · rw [e _ (by omega), e _ (by omega), e _ (by omega)]; exact hl.2 j hj
  · obtain ⟨c0, c1, c2, c3, c4, c5, c6, c7, c8, c9, c10⟩ := hp i hi
    refine ⟨fun j hj => ?_, ?_, ?_, ?_, ?_, ?_, ?_, ?_, ?_, ?_, fun j hj hk => ?_⟩
    any_goals (rw [e _ (by omega)]; assumption)
    · rw [e _ (by omega)]; exact c0 j hj
    · rw [e _ (by omega)] at hk
      rw [e _ (by omega)]; exact c10 j hj hk
theorem aSt.fr {I I1 : jx_I} {a : Nat} {v : Nat → Int32} {k T : Nat} (h : aSt I a v k T) (h16 : k ≤ 16) (e : ∀ z, a ≤ z → z < a + 56 → I1 z = I z) : aSt I1 a v k T := by
  obtain ⟨ha, hb, hr, hl, hp⟩ := h
  refine ⟨?_, ?_, ?_, ⟨?_, fun j hj => ?_⟩, fun i hi => ?_⟩
  · rw [e _ (by omega) (by omega)]; exact ha
  · rw [e _ (by omega) (by omega)]; exact hb
  · rw [e _ (by omega) (by omega)]; exact hr
  · rw [e _ (by omega) (by omega)]; exact hl.1
  · rw [e _ (by omega) (by omega), e _ (by omega) (by omega), e _ (by omega) (by omega)]; exact hl.2 j hj
  · have := hp i hi
    unfold aPt at this ⊢
    rw [e _ (by omega) (by omega), e _ (by omega) (by omega), e _ (by omega) (by omega)]; exact this
theorem VX.cg {v u : Nat → Int32} {k : Nat} (h : VX v k) (h16 : k ≤ 16) (e : eqR u v) : VX u k := by
  obtain ⟨h1, ⟨a, ha, h2⟩, b, hb, h3⟩ := h
  exact ⟨fun i hi => by rw [e _ (by omega)]; exact h1 i hi, ⟨a, ha, (e 6 (by omega)).trans h2⟩, b, hb, (e 7 (by omega)).trans h3⟩
theorem hR.cg {I : jx_I} {a : Nat} {v u : Nat → Int32} {B : Nat} (h : hR I a v B) (e : eqR u v) : hR I a u B := by
  obtain ⟨k, T, S, N, h1, h2, h3, h4⟩ := h
  exact ⟨k, T, S, N, h1.cg h2.k16 e, h2.cg e, h3, h4.cg h2.k16 e⟩
theorem hR.fr {I I1 : jx_I} {a : Nat} {v : Nat → Int32} {B : Nat} (h : hR I a v B) (e : ∀ z, a ≤ z → z < a + 56 → I1 z = I z) : hR I1 a v B := by
  obtain ⟨k, T, S, N, h1, h2, h3, h4⟩ := h
  exact ⟨k, T, S, N, h1.fr h2.k16 e, h2, h3, h4⟩
theorem hR.mono {I : jx_I} {a : Nat} {v : Nat → Int32} {B B1 : Nat} (h : hR I a v B) (e : B ≤ B1) : hR I a v B1 := by
  obtain ⟨k, T, S, N, h1, h2, h3, h4⟩ := h
  exact ⟨k, T, S, N, h1, h2, Nat.le_trans h3 e, h4⟩
theorem sSt.cg {kd : jx_K} {R R1 : jx_R} {a : Nat} (h : sSt kd R a) (e : ∀ z, a ≤ z → z < a + 56 → R1 z = R z) : sSt kd R1 a := by
  obtain ⟨K0, K1, R0, R1', R2, hF, hL, hP⟩ := h
  refine ⟨K0, K1, ?_, ?_, ?_, ⟨hF.1, hF.2.1, ?_⟩, ?_, fun i hi => ?_⟩
  · rw [e _ (by omega) (by omega)]; exact R0
  · rw [e _ (by omega) (by omega)]; exact R1'
  · rw [e _ (by omega) (by omega)]; exact R2
  · rw [e _ (by omega) (by omega)]; exact hF.2.2
  · unfold sLg at hL ⊢
    rw [e _ (by omega) (by omega)]; exact hL
  · have := hP i hi
    unfold sPt at this ⊢
    rw [e _ (by omega) (by omega), e _ (by omega) (by omega)]; exact this
theorem stA_d {d i j : Nat} (h : i ≠ j) : stA d i + 56 ≤ stA d j ∨ stA d j + 56 ≤ stA d i := by unfold stA; omega
theorem sDk.ne {kd : jx_K} {R : jx_R} {d i j : Nat} {P : Nat → Nat} (h : sDk kd R d P) (hi : i < 6) (hj : j < 6) (hij : i ≠ j) : stA d (P i) + 56 ≤ stA d (P j) ∨ stA d (P j) + 56 ≤ stA d (P i) :=
  stA_d (fun e => hij (h.2.2.2.2.2.2.2.2.2.2.2.2 i j hi hj e))
theorem sDk.p6 {kd : jx_K} {R : jx_R} {d j : Nat} {P : Nat → Nat} (h : sDk kd R d P) (hj : j < 6) : P j < 6 := h.2.2.2.2.2.2.2.2.2.2.2.1 j hj
theorem sDk.st {kd : jx_K} {R : jx_R} {d j : Nat} {P : Nat → Nat} (h : sDk kd R d P) (hj : j < 6) : sSt kd R (stA d (P j)) := h.2.2.2.2.2.2.2.2.2.2.1 _ (h.p6 hj)
theorem sDk.sc {kd : jx_K} {R : jx_R} {d : Nat} {P : Nat → Nat} (h : sDk kd R d P) : sSc kd R (d + 1) := h.2.2.2.2.2.2.2.2.2.1
theorem sDk.lo {kd : jx_K} {R : jx_R} {d j : Nat} {P : Nat → Nat} (_ : sDk kd R d P) : d + 8 ≤ stA d (P j) := by unfold stA; omega
theorem sDk.hi {kd : jx_K} {R : jx_R} {d j : Nat} {P : Nat → Nat} (h : sDk kd R d P) (hj : j < 6) : stA d (P j) + 56 ≤ d + 344 := by have := h.p6 hj; unfold stA; omega
theorem sDk.perm {kd : jx_K} {R R1 : jx_R} {d : Nat} {P : Nat → Nat} (h : sDk kd R d P) (s : Nat → Nat) (s6 : ∀ j, j < 6 → s j < 6) (si : ∀ i j, i < 6 → j < 6 → s i = s j → i = j) (e : ∀ z, z ≠ d → z ≠ d + 7 → R1 z = R z) (e0 : R1 d 0 = R d 0) (e1 : R1 d 1 = R d 1) (e2 : R1 d 2 = R d 2) (e4 : R1 d 4 = some (stA d (P (s 4)))) (e5 : R1 d 5 = some (stA d (P (s 5)))) (ep : ∀ j, j < 4 → R1 (d + 7) j = some (stA d (P (s j)))) : sDk kd R1 d (fun j => P (s j)) := by
  obtain ⟨K0, K6, K7, R0, R1', R2, R4, R5, Rp, hsc, hst, hP6, hinj⟩ := h
  refine ⟨K0, K6, K7, e0.trans R0, e1.trans R1', e2.trans R2, e4, e5, ep, ?_, fun i hi => (hst i hi).cg (fun z h1 _ => e z (by unfold stA at h1; omega) (by unfold stA at h1; omega)), fun j hj => hP6 _ (s6 j hj), fun i j hi hj hh => si i j hi hj (hinj _ _ (s6 i hi) (s6 j hj) hh)⟩
  unfold sSc at hsc ⊢
  rw [e _ (by omega) (by omega)]
  exact hsc
theorem dN.act {kd : jx_K} {R : jx_R} {d : Nat} {P : Nat → Nat} {I I1 : jx_I} {u v w p : Nat → Int32} {q B B1 k T S N : Nat} (hs : sDk kd R d P) (h : dN I d P u v p q B) (h2 : aS I I1 (stA d (P 4)) w k T S N) (hN : N ≤ B1) (hB : B ≤ B1) (hx : VX w k) : dN I1 d P u w p q B1 := by
  obtain ⟨⟨h3, hq, h4, hp⟩, h5⟩ := h
  have lo := hs.lo (j := 4)
  have fr : ∀ j, j < 6 → j ≠ 4 → ∀ z, stA d (P j) ≤ z → z < stA d (P j) + 56 → I1 z = I z := fun j hj hj4 z h1 h2' => h2.fr z (by have := hs.ne hj (show 4 < 6 from by omega) hj4; omega)
  refine ⟨⟨?_, hq, ⟨k, T, S, N, h2.1, h2.vi, hN, hx⟩, fun j hj => ((hp j hj).fr (fr j (by omega) (by omega))).mono hB⟩, (h5.fr (fr 5 (by omega) (by omega))).mono hB⟩
  rw [h2.fr d (by omega)]; exact h3
theorem dFr.aS {kd : jx_K} {R : jx_R} {d : Nat} {P : Nat → Nat} {I I1 : jx_I} {w : Nat → Int32} {j k T S N : Nat} (hs : sDk kd R d P) (hj : j < 6) (h2 : aS I I1 (stA d (P j)) w k T S N) : dFr d I I1 := fun z a b c => h2.fr z (by have := hs.lo (j := j); have := hs.hi hj; omega)
theorem dM.mono {I : jx_I} {d : Nat} {P : Nat → Nat} {w p : Nat → Int32} {q B B1 : Nat} (h : dM I d P w p q B) (hB : B ≤ B1) : dM I d P w p q B1 := ⟨h.1, h.2.1, h.2.2.1.mono hB, fun j hj => (h.2.2.2 j hj).mono hB⟩
theorem kpP_a {p u : Nat → Int32} {q j z : Nat} (h : q < 4) (hj : j < q) (hz : z < 1080) : prw (kpP p q u) j z = prw p j z := by
  unfold prw kpP pC
  rw [if_neg (by omega), if_neg (by omega)]
theorem kpP_b {p u : Nat → Int32} {q z : Nat} (h : q < 4) (hz : z < 1080) : prw (kpP p q u) q z = u z := by
  unfold prw kpP pC
  rw [if_neg (by omega), if_pos (by omega)]
  exact congrArg u (by omega)
theorem kpP_c {p u : Nat → Int32} {j z : Nat} (hj : j < 3) (hz : z < 1080) : prw (kpP p 4 u) j z = prw p (j + 1) z := by
  unfold prw kpP pC pS
  rw [if_pos rfl, if_neg (by omega), if_pos (by omega)]
  exact congrArg p (by omega)
theorem kpP_d {p u : Nat → Int32} {z : Nat} (hz : z < 1080) : prw (kpP p 4 u) 3 z = u z := by
  unfold prw kpP pC
  rw [if_pos rfl, if_pos (by omega)]
  exact congrArg u (by omega)
/-! ===== values and the flood's numbers stay small ===== -/
def KX (v w : Nat → Int32) : Prop := (∀ i, i < 16 → w (176 + 56 * i + 7) = v (176 + 56 * i + 7)) ∧ w 6 = v 6 ∧ w 7 = v 7
theorem KX.r {v : Nat → Int32} : KX v v := ⟨fun _ _ => rfl, rfl, rfl⟩
theorem KX.t {u v w : Nat → Int32} (h1 : KX u v) (h2 : KX v w) : KX u w := ⟨fun i hi => (h2.1 i hi).trans (h1.1 i hi), h2.2.1.trans h1.2.1, h2.2.2.trans h1.2.2⟩
theorem KX.u {v w : Nat → Int32} {j : Nat} {x : Int32} (h : KX v w) (h1 : ∀ i, i < 16 → 176 + 56 * i + 7 ≠ j) (h6 : 6 ≠ j) (h7 : 7 ≠ j) : KX v (upd w j x) := ⟨fun i hi => (pk_un (h1 i hi)).trans (h.1 i hi), (pk_un h6).trans h.2.1, (pk_un h7).trans h.2.2⟩
theorem KX.hap {v w : Nat → Int32} {a b : Int32} (h : KX v w) : KX v (sHap w a b) := by
  unfold sHap sHapN
  repeat (first | exact h | refine KX.u ?_ (fun i hi => by omega) (by omega) (by omega))
theorem KX.look {v : Nat → Int32} {T i : Nat} : KX v (sLook v T i) := by
  unfold sLook
  repeat' split
  all_goals (repeat (first | exact KX.r | refine KX.hap ?_ | refine KX.u ?_ (fun i hi => by omega) (by omega) (by omega)))
theorem KX.lookA {v : Nat → Int32} {T : Nat} : ∀ i, KX v (lookA v T i)
  | 0 => KX.r
  | i + 1 => (KX.lookA i).t KX.look
theorem KX.shA {v : Nat → Int32} {T : Nat} : ∀ i, KX v (shA v T i)
  | 0 => KX.r
  | i + 1 => by
    rw [Jvm.Pilot.CAlarmDeskLaw_law_r9548_933d87.shA]
    split
    · exact KX.shA i
    · split
      · exact KX.shA i
      · exact (KX.shA i).t (by repeat (first | exact KX.r | refine KX.hap ?_ | refine KX.u ?_ (fun i hi => by omega) (by omega) (by omega)))
theorem KX.fld {v : Nat → Int32} {T S : Nat} : KX v (fld v T S) := by
  unfold Jvm.Pilot.CAlarmDeskLaw_law_r9548_933d87.fld
  repeat' split
  all_goals (repeat (first | exact KX.r | refine KX.hap ?_ | refine KX.u ?_ (fun i hi => by omega) (by omega) (by omega)))
theorem KX.ptA {v : Nat → Int32} : ∀ i, KX v (ptA v i)
  | 0 => KX.r
  | i + 1 => (KX.ptA i).t (by rw [Jvm.Pilot.CAlarmDeskLaw_law_r9548_933d87.ptA]; repeat (first | exact KX.r | refine KX.hap ?_ | refine KX.u ?_ (fun i hi => by omega) (by omega) (by omega)))
theorem KX.tick {v : Nat → Int32} {k T S : Nat} : KX v (sTick v k T S) := by
  unfold sTick
  exact (((KX.t (by unfold tk0; repeat (first | exact KX.r | refine KX.hap ?_ | refine KX.u ?_ (fun i hi => by omega) (by omega) (by omega))) (KX.lookA k)).t (KX.shA k)).t KX.fld).t (KX.ptA k)
theorem KX.tkF {v : Nat → Int32} {k T S : Nat} : ∀ j, KX v (tkF v k T S j)
  | 0 => KX.r
  | j + 1 => (KX.tkF j).t KX.tick
theorem VX.kx {v w : Nat → Int32} {k : Nat} (h : VX v k) (h16 : k ≤ 16) (e : KX v w) : VX w k := by
  obtain ⟨h1, ⟨a, ha, h2⟩, b, hb, h3⟩ := h
  exact ⟨fun i hi => by rw [e.1 i (by omega)]; exact h1 i hi, ⟨a, ha, e.2.1.trans h2⟩, b, hb, e.2.2.trans h3⟩
theorem KX.ack {v : Nat → Int32} {x : Int32} : KX v (fAck v x).2 := by
  unfold fAck
  repeat' split
  all_goals (dsimp only; repeat (first | exact KX.r | refine KX.hap ?_ | refine KX.u ?_ (fun i hi => by omega) (by omega) (by omega)))
theorem KX.shv {v : Nat → Int32} {x y : Int32} : KX v (fShv v x y).2 := by
  unfold fShv
  repeat' split
  all_goals (dsimp only; repeat (first | exact KX.r | refine KX.hap ?_ | refine KX.u ?_ (fun i hi => by omega) (by omega) (by omega)))
theorem KX.uns {v : Nat → Int32} {x : Int32} : KX v (fUns v x).2 := by
  unfold fUns
  repeat' split
  all_goals (dsimp only; repeat (first | exact KX.r | refine KX.hap ?_ | refine KX.u ?_ (fun i hi => by omega) (by omega) (by omega)))
theorem KX.mod {v : Nat → Int32} {x : Int32} : KX v (fMod v x).2 := by
  unfold fMod
  repeat' split
  all_goals (dsimp only; repeat (first | exact KX.r | refine KX.hap ?_ | refine KX.u ?_ (fun i hi => by omega) (by omega) (by omega)))
theorem KX.tks {v : Nat → Int32} {k T S : Nat} {x : Int32} : KX v (fTks v k T S x).2 := by
  unfold fTks
  repeat' split
  all_goals (dsimp only; first | exact KX.tkF _ | exact KX.r)
theorem VX.val {v : Nat → Int32} {k : Nat} {x y : Int32} (h : VX v k) : VX (fVal v x y).2 k := by
  unfold fVal
  split
  · split
    · rename_i hy
      obtain ⟨h1, ⟨a, ha, h2⟩, b, hb, h3⟩ := h
      refine ⟨fun i hi => ?_, ⟨a, ha, by dsimp only; rw [pk_un (by omega)]; exact h2⟩, b, hb, by dsimp only; rw [pk_un (by omega)]; exact h3⟩
      by_cases e : 176 + 56 * i + 7 = 176 + 56 * x.toNatClampNeg + 7
      · dsimp only; rw [e, pk_us]; exact hy
      · dsimp only; rw [pk_un e]; exact h1 i hi
    · exact h
  · exact h
theorem okS_lt {s y : Int32} (h : okS s y = true) : s.toNatClampNeg < 7 := by
  unfold okS at h
  repeat' split at h
  any_goals (subst_vars; decide)
  all_goals (rename_i e; first | (rw [e]; decide) | exact absurd h (by decide))
theorem KX.set {v : Nat → Int32} {x s y : Int32} (h : okS s y = true) : KX v (fSet v x s y) := by
  have h7 := okS_lt h
  unfold fSet
  repeat' split
  all_goals (repeat (first | exact KX.r | refine KX.hap ?_ | refine KX.u ?_ (fun i hi => by omega) (by omega) (by omega)))
theorem VX.flo {v : Nat → Int32} {k : Nat} {x y z : Int32} (h : VX v k) (ho : okF x y z = true) : VX (upd (upd (upd v 5 x) 6 y) 7 z) k := by
  unfold okF at ho
  simp only [Bool.and_eq_true, decide_eq_true_eq] at ho
  obtain ⟨_, ⟨h1, h2⟩, h3, h4⟩ := ho
  have e0 : (nI 0).toInt = 0 := rfl
  have e1 : (nI 1).toInt = 1 := rfl
  have e2 : (0 : Int32).toInt = 0 := rfl
  obtain ⟨a, ha, rfl⟩ := nI_of (x := y) (fun z => by simp only [Int32.lt_iff_toInt_lt, Int32.le_iff_toInt_le] at *; omega)
  obtain ⟨b, hb, rfl⟩ := nI_of (x := z) (fun z => by simp only [Int32.lt_iff_toInt_lt, Int32.le_iff_toInt_le] at *; omega)
  have g2 := (nI_leI ha (by omega)).mp h2
  have g4 := (nI_leI hb ha).mp h4
  refine ⟨fun i hi => ?_, ⟨a, g2, ?_⟩, b, by omega, ?_⟩
  · rw [pk_un (by omega), pk_un (by omega), pk_un (by omega)]; exact h.1 i hi
  · rw [pk_un (by omega), pk_us]
  · rw [pk_us]
theorem VX.add {v : Nat → Int32} {k : Nat} {x y : Int32} (h : VX v k) : VX (fAdd v k x y) (k + 1) := by
  obtain ⟨h1, ⟨a, ha, h2⟩, b, hb, h3⟩ := h
  unfold fAdd zeroP
  refine ⟨fun i hi => ?_, ⟨a, ha, ?_⟩, b, hb, ?_⟩
  · rw [pk_un (by omega), pk_un (by omega), pk_un (by omega), pk_un (by omega), pk_un (by omega)]
    split
    · decide
    · exact h1 i (by omega)
  · rw [pk_un (by omega), pk_un (by omega), pk_un (by omega), pk_un (by omega), pk_un (by omega), if_neg (by omega)]; exact h2
  · rw [pk_un (by omega), pk_un (by omega), pk_un (by omega), pk_un (by omega), pk_un (by omega), if_neg (by omega)]; exact h3
set_option maxRecDepth 100000 in
set_option maxHeartbeats 4000000 in
theorem c_X5_noteBefore {E : jx_E} {l : Launch} {n : Nat} {kd : jx_K} {R : jx_R} {I : jx_I} {d : Nat} {P : Nat → Nat} {v p : Nat → Int32} {q B : Nat} (hs : sDk kd R d P) (h : dM I d P v p q B) : jx_Cv E l yX5_noteBefore cX5_noteBefore 1 none 3 n kd R (I) [.ref d] (fun I' => dN I' d P v v p q B ∧ dFr d I I' ∧ ∀ z, stA d (P 4) ≤ z → z < stA d (P 4) + 56 → I' z = I z) := by
  obtain ⟨K0, K6, K7, R0, R1, R2, R4, R5, Rp, hsc, hst, hP6, hinj⟩ := id hs
  have S4 := hs.st (show 4 < 6 from by omega)
  have S5 := hs.st (show 5 < 6 from by omega)
  have K4 := S4.1
  have K5 := S5.1
  obtain ⟨h3, hq4, ⟨k, T, S, N, hA, hV, hN, hX⟩, hp⟩ := id h
  have lo := hs.lo (j := 5)
  refine jx_C0.ofJ RX5 [some (.ref d)] (by decide) rfl rfl (Nat.le_of_ble_eq_true rfl) rfl ?_
  refine j_aload_n (pc' := 1) dX5_noteBefore_0 rfl rfl ?_
  refine j_getR (pc' := 4) f_X5_31 (by assumption) (by assumption) dX5_noteBefore_1 rfl ?_
  refine j_aload_n (pc' := 5) dX5_noteBefore_4 rfl rfl ?_
  refine j_getR (pc' := 8) f_X5_27 (by assumption) (by assumption) dX5_noteBefore_5 rfl ?_
  refine j_cVv (pc' := 11) m_X5_178 (c_X4_copyFrom S5 S4 (hs.ne (by omega) (by omega) (by omega)) hA hV) (by assumption) (by decide) rfl rfl rfl ⟨Nat.le_of_ble_eq_true rfl, Nat.le_of_ble_eq_true rfl⟩ ⟨Nat.zero_le _, Nat.zero_le _⟩ (Nat.le_of_ble_eq_true rfl) dX5_noteBefore_8 rfl (fun I1 hq => ?_)
  skip
  refine j_retv dX5_noteBefore_11 rfl ?_
  have fr : ∀ j, j < 6 → j ≠ 5 → ∀ z, stA d (P j) ≤ z → z < stA d (P j) + 56 → I1 z = I z := fun j hj hj4 z h1 h2' => hq.fr z (by have := hs.ne hj (show 5 < 6 from by omega) hj4; omega)
  exact ⟨⟨⟨(congrFun (hq.fr d (by omega)) 3).trans h3, hq4, h.2.2.1.fr (fr 4 (by omega) (by omega)), fun j hj => (hp j hj).fr (fr j (by omega) (by omega))⟩, ⟨k, T, S, N, hq.1, hq.vi, hN, hX⟩⟩, dFr.aS hs (by omega) hq, fr 4 (by omega) (by omega)⟩

set_option maxRecDepth 100000 in
set_option maxHeartbeats 4000000 in
theorem c_X5_keepBefore {E : jx_E} {l : Launch} {n : Nat} {kd : jx_K} {R : jx_R} {I : jx_I} {d : Nat} {P : Nat → Nat} {v w p : Nat → Int32} {q B : Nat} (hs : sDk kd R d P) (h : dN I d P v w p q B) : jx_CvR E l yX5_keepBefore cX5_keepBefore 3 none 0 n kd R (I) [.ref d] (fun R' I' => ∃ P', sDk kd R' d P' ∧ dFr d I I' ∧ rFr d R R' ∧ ∀ u, eqR u v → dM I' d P' w (kpP p q u) (kpC q) B) := by
  obtain ⟨K0, K6, K7, R0, R1, R2, R4, R5, Rp, hsc, hst, hP6, hinj⟩ := id hs
  have S4 := hs.st (show 4 < 6 from by omega)
  have S5 := hs.st (show 5 < 6 from by omega)
  have K4 := S4.1
  have K5 := S5.1
  obtain ⟨⟨h3, hq4, h4, hp⟩, h5⟩ := id h
  have Kp := fun j (hj : j < 4) => (hs.st (show j < 6 from by omega)).1
  have r0 := Rp 0 (by omega)
  have r1 := Rp 1 (by omega)
  have r2 := Rp 2 (by omega)
  have r3 := Rp 3 (by omega)
  have k1 := Kp 1 (by omega)
  have k2 := Kp 2 (by omega)
  have k3 := Kp 3 (by omega)
  refine jx_CtR.ofJ RX5 [some (.ref d), none, none] (by decide) rfl rfl (Nat.le_of_ble_eq_true rfl) rfl ?_
  refine j_aload_n (pc' := 1) dX5_keepBefore_0 rfl rfl ?_
  refine j_getR (pc' := 4) f_X5_31 (by assumption) (by first | assumption | (simp (disch := omega) only [jx_upRS, jx_upRK, jx_upRA]; first | done | assumption)) dX5_keepBefore_1 rfl ?_
  refine j_astore_n (pc' := 5) (lv' := [_, _, _]) dX5_keepBefore_4 rfl (by decide) rfl ?_
  refine j_aload_n (pc' := 6) dX5_keepBefore_5 rfl rfl ?_
  refine j_getIv (pc' := 9) f_X5_182 (by assumption) (by first | (simp (disch := omega) only [jx_upS, jx_upK, jx_upA, h3]; rfl) | rfl) dX5_keepBefore_6 rfl ?_
  refine j_iconst (pc' := 10) (v := nI 4) dX5_keepBefore_9 rfl rfl ?_
  first | refine j_icmp_geN' (tgt := 47) (pc' := 13) (by with_reducible rfl) (by with_reducible rfl) (by omega) (by omega) dX5_keepBefore_10 rfl (by decide) (fun c10 => ?_) (fun c10 => ?_) | refine j_icmp_ge (tgt := 47) (pc' := 13) dX5_keepBefore_10 rfl (by decide) (fun c10 => ?_) (fun c10 => ?_)
  ·
    refine j_aload_n (pc' := 48) dX5_keepBefore_47 rfl rfl ?_
    refine j_aload_n (pc' := 49) dX5_keepBefore_48 rfl rfl ?_
    refine j_getR (pc' := 52) f_X5_22 (by assumption) (by first | assumption | (simp (disch := omega) only [jx_upRS, jx_upRK, jx_upRA]; first | done | assumption)) dX5_keepBefore_49 rfl ?_
    refine j_iconst (pc' := 53) (v := nI 0) dX5_keepBefore_52 rfl rfl ?_
    first | refine j_aaldP (pc' := 54) (by assumption) rfl (by omega) (by omega) (by first | assumption | (simp (disch := omega) only [h3]; done)) dX5_keepBefore_53 rfl ?_ | refine j_aaldS (pc' := 54) (by assumption) rfl (by omega) (by omega) (by first | assumption | (simp (disch := omega) only [jx_upRS, jx_upRK, jx_upRA]; first | done | assumption)) dX5_keepBefore_53 rfl ?_
    refine j_putR (pc' := 57) f_X5_31 (by assumption) rfl rfl dX5_keepBefore_54 rfl ?_
    refine j_iconst (pc' := 58) (v := nI 1) dX5_keepBefore_57 rfl rfl ?_
    refine j_istore_n (pc' := 59) (lv' := [_, _, _]) dX5_keepBefore_58 rfl (by decide) rfl ?_
    refine j_iload_n (pc' := 60) dX5_keepBefore_59 rfl rfl ?_
    refine j_iconst (pc' := 61) (v := nI 4) dX5_keepBefore_60 rfl rfl ?_
    first | refine j_icmp_geN' (tgt := 84) (pc' := 64) (by with_reducible rfl) (by with_reducible rfl) (by omega) (by omega) dX5_keepBefore_61 rfl (by decide) (fun c61 => ?_) (fun c61 => ?_) | refine j_icmp_ge (tgt := 84) (pc' := 64) dX5_keepBefore_61 rfl (by decide) (fun c61 => ?_) (fun c61 => ?_)
    ·
      exact absurd c61 (by decide)
    ·
      refine j_aload_n (pc' := 65) dX5_keepBefore_64 rfl rfl ?_
      refine j_getR (pc' := 68) f_X5_22 (by assumption) (by first | assumption | (simp (disch := omega) only [jx_upRS, jx_upRK, jx_upRA]; first | done | assumption)) dX5_keepBefore_65 rfl ?_
      refine j_iload_n (pc' := 69) dX5_keepBefore_68 rfl rfl ?_
      refine j_iconst (pc' := 70) (v := nI 1) dX5_keepBefore_69 rfl rfl ?_
      first | refine j_isubN' (pc' := 71) (by with_reducible rfl) (by with_reducible rfl) (by omega) dX5_keepBefore_70 rfl ?_ | refine j_isub (pc' := 71) dX5_keepBefore_70 rfl ?_
      refine j_aload_n (pc' := 72) dX5_keepBefore_71 rfl rfl ?_
      refine j_getR (pc' := 75) f_X5_22 (by assumption) (by first | assumption | (simp (disch := omega) only [jx_upRS, jx_upRK, jx_upRA]; first | done | assumption)) dX5_keepBefore_72 rfl ?_
      refine j_iload_n (pc' := 76) dX5_keepBefore_75 rfl rfl ?_
      first | refine j_aaldP (pc' := 77) (by assumption) rfl (by omega) (by omega) (by first | assumption | (simp (disch := omega) only [h3]; done)) dX5_keepBefore_76 rfl ?_ | refine j_aaldS (pc' := 77) (by assumption) rfl (by omega) (by omega) (by first | assumption | (simp (disch := omega) only [jx_upRS, jx_upRK, jx_upRA]; first | done | assumption)) dX5_keepBefore_76 rfl ?_
      refine j_aastS (pc' := 78) (by assumption) rfl (by omega) (by omega) (by assumption) dX5_keepBefore_77 rfl ?_
      first | refine j_iincN (pc' := 81) (lv' := [_, _, _]) dX5_keepBefore_78 rfl rfl (by decide) rfl ?_ | refine j_iinc (pc' := 81) (lv' := [_, _, _]) dX5_keepBefore_78 rfl rfl rfl (by decide) rfl ?_
      refine j_goto (tgt := 59) dX5_keepBefore_81 (by decide) ?_
      refine j_iload_n (pc' := 60) dX5_keepBefore_59 rfl rfl ?_
      refine j_iconst (pc' := 61) (v := nI 4) dX5_keepBefore_60 rfl rfl ?_
      first | refine j_icmp_geN' (tgt := 84) (pc' := 64) (by with_reducible rfl) (by with_reducible rfl) (by omega) (by omega) dX5_keepBefore_61 rfl (by decide) (fun c61 => ?_) (fun c61 => ?_) | refine j_icmp_ge (tgt := 84) (pc' := 64) dX5_keepBefore_61 rfl (by decide) (fun c61 => ?_) (fun c61 => ?_)
      ·
        exact absurd c61 (by decide)
      ·
        refine j_aload_n (pc' := 65) dX5_keepBefore_64 rfl rfl ?_
        refine j_getR (pc' := 68) f_X5_22 (by assumption) (by first | assumption | (simp (disch := omega) only [jx_upRS, jx_upRK, jx_upRA]; first | done | assumption)) dX5_keepBefore_65 rfl ?_
        refine j_iload_n (pc' := 69) dX5_keepBefore_68 rfl rfl ?_
        refine j_iconst (pc' := 70) (v := nI 1) dX5_keepBefore_69 rfl rfl ?_
        first | refine j_isubN' (pc' := 71) (by with_reducible rfl) (by with_reducible rfl) (by omega) dX5_keepBefore_70 rfl ?_ | refine j_isub (pc' := 71) dX5_keepBefore_70 rfl ?_
        refine j_aload_n (pc' := 72) dX5_keepBefore_71 rfl rfl ?_
        refine j_getR (pc' := 75) f_X5_22 (by assumption) (by first | assumption | (simp (disch := omega) only [jx_upRS, jx_upRK, jx_upRA]; first | done | assumption)) dX5_keepBefore_72 rfl ?_
        refine j_iload_n (pc' := 76) dX5_keepBefore_75 rfl rfl ?_
        first | refine j_aaldP (pc' := 77) (by assumption) rfl (by omega) (by omega) (by first | assumption | (simp (disch := omega) only [h3]; done)) dX5_keepBefore_76 rfl ?_ | refine j_aaldS (pc' := 77) (by assumption) rfl (by omega) (by omega) (by first | assumption | (simp (disch := omega) only [jx_upRS, jx_upRK, jx_upRA]; first | done | assumption)) dX5_keepBefore_76 rfl ?_
        refine j_aastS (pc' := 78) (by assumption) rfl (by omega) (by omega) (by assumption) dX5_keepBefore_77 rfl ?_
        first | refine j_iincN (pc' := 81) (lv' := [_, _, _]) dX5_keepBefore_78 rfl rfl (by decide) rfl ?_ | refine j_iinc (pc' := 81) (lv' := [_, _, _]) dX5_keepBefore_78 rfl rfl rfl (by decide) rfl ?_
        refine j_goto (tgt := 59) dX5_keepBefore_81 (by decide) ?_
        refine j_iload_n (pc' := 60) dX5_keepBefore_59 rfl rfl ?_
        refine j_iconst (pc' := 61) (v := nI 4) dX5_keepBefore_60 rfl rfl ?_
        first | refine j_icmp_geN' (tgt := 84) (pc' := 64) (by with_reducible rfl) (by with_reducible rfl) (by omega) (by omega) dX5_keepBefore_61 rfl (by decide) (fun c61 => ?_) (fun c61 => ?_) | refine j_icmp_ge (tgt := 84) (pc' := 64) dX5_keepBefore_61 rfl (by decide) (fun c61 => ?_) (fun c61 => ?_)
        ·
          exact absurd c61 (by decide)
        ·
          refine j_aload_n (pc' := 65) dX5_keepBefore_64 rfl rfl ?_
          refine j_getR (pc' := 68) f_X5_22 (by assumption) (by first | assumption | (simp (disch := omega) only [jx_upRS, jx_upRK, jx_upRA]; first | done | assumption)) dX5_keepBefore_65 rfl ?_
          refine j_iload_n (pc' := 69) dX5_keepBefore_68 rfl rfl ?_
          refine j_iconst (pc' := 70) (v := nI 1) dX5_keepBefore_69 rfl rfl ?_
          first | refine j_isubN' (pc' := 71) (by with_reducible rfl) (by with_reducible rfl) (by omega) dX5_keepBefore_70 rfl ?_ | refine j_isub (pc' := 71) dX5_keepBefore_70 rfl ?_
          refine j_aload_n (pc' := 72) dX5_keepBefore_71 rfl rfl ?_
          refine j_getR (pc' := 75) f_X5_22 (by assumption) (by first | assumption | (simp (disch := omega) only [jx_upRS, jx_upRK, jx_upRA]; first | done | assumption)) dX5_keepBefore_72 rfl ?_
          refine j_iload_n (pc' := 76) dX5_keepBefore_75 rfl rfl ?_
          first | refine j_aaldP (pc' := 77) (by assumption) rfl (by omega) (by omega) (by first | assumption | (simp (disch := omega) only [h3]; done)) dX5_keepBefore_76 rfl ?_ | refine j_aaldS (pc' := 77) (by assumption) rfl (by omega) (by omega) (by first | assumption | (simp (disch := omega) only [jx_upRS, jx_upRK, jx_upRA]; first | done | assumption)) dX5_keepBefore_76 rfl ?_
          refine j_aastS (pc' := 78) (by assumption) rfl (by omega) (by omega) (by assumption) dX5_keepBefore_77 rfl ?_
          first | refine j_iincN (pc' := 81) (lv' := [_, _, _]) dX5_keepBefore_78 rfl rfl (by decide) rfl ?_ | refine j_iinc (pc' := 81) (lv' := [_, _, _]) dX5_keepBefore_78 rfl rfl rfl (by decide) rfl ?_
          refine j_goto (tgt := 59) dX5_keepBefore_81 (by decide) ?_
          refine j_iload_n (pc' := 60) dX5_keepBefore_59 rfl rfl ?_
          refine j_iconst (pc' := 61) (v := nI 4) dX5_keepBefore_60 rfl rfl ?_
          first | refine j_icmp_geN' (tgt := 84) (pc' := 64) (by with_reducible rfl) (by with_reducible rfl) (by omega) (by omega) dX5_keepBefore_61 rfl (by decide) (fun c61 => ?_) (fun c61 => ?_) | refine j_icmp_ge (tgt := 84) (pc' := 64) dX5_keepBefore_61 rfl (by decide) (fun c61 => ?_) (fun c61 => ?_)
          ·
            refine j_aload_n (pc' := 85) dX5_keepBefore_84 rfl rfl ?_
            refine j_getR (pc' := 88) f_X5_22 (by assumption) (by first | assumption | (simp (disch := omega) only [jx_upRS, jx_upRK, jx_upRA]; first | done | assumption)) dX5_keepBefore_85 rfl ?_
            refine j_iconst (pc' := 89) (v := nI 3) dX5_keepBefore_88 rfl rfl ?_
            refine j_aload_n (pc' := 90) dX5_keepBefore_89 rfl rfl ?_
            refine j_aastS (pc' := 91) (by assumption) rfl (by omega) (by omega) (by assumption) dX5_keepBefore_90 rfl ?_
            refine j_retvR dX5_keepBefore_91 rfl ?_
            have e4 : q = 4 := by omega
            subst e4
            refine ⟨fun j => P (if j = 3 then 5 else if j = 5 then 0 else if j < 3 then j + 1 else j), hs.perm (fun j => if j = 3 then 5 else if j = 5 then 0 else if j < 3 then j + 1 else j) (fun j hj => by (repeat' split) <;> omega) (fun i j hi hj hh => by revert hh; (repeat' split) <;> omega) (fun z h1 h2 => by funext y; simp (disch := omega) only [jx_upRS, jx_upRK, jx_upRA]) (by simp (disch := omega) only [jx_upRS, jx_upRK, jx_upRA]) (by simp (disch := omega) only [jx_upRS, jx_upRK, jx_upRA]) (by simp (disch := omega) only [jx_upRS, jx_upRK, jx_upRA]) (by simp (disch := omega) only [jx_upRS, jx_upRK, jx_upRA]; exact R4) (by simp (disch := omega) only [jx_upRS, jx_upRK, jx_upRA]; rfl) (fun j hj => ?_), dFr.r, fun z h1 h2 => by funext y; simp (disch := omega) only [jx_upRS, jx_upRK, jx_upRA], fun u hu => ?_⟩
            · have : j = 0 ∨ j = 1 ∨ j = 2 ∨ j = 3 := by omega
              rcases this with rfl | rfl | rfl | rfl <;> (simp (disch := omega) only [jx_upRS, jx_upRK, jx_upRA]; rfl)
            · refine ⟨h3, Nat.le_refl _, h4, fun j hj => ?_⟩
              have hj4 : j < 4 := hj
              have : j = 0 ∨ j = 1 ∨ j = 2 ∨ j = 3 := by omega
              rcases this with rfl | rfl | rfl | rfl
              · exact (hp 1 (by omega)).cg (fun z hz => kpP_c (by omega) hz)
              · exact (hp 2 (by omega)).cg (fun z hz => kpP_c (by omega) hz)
              · exact (hp 3 (by omega)).cg (fun z hz => kpP_c (by omega) hz)
              · exact h5.cg (fun z hz => (kpP_d hz).trans (hu z hz))
          ·
            exact absurd c61 (by decide)
  ·
    have rq := Rp q (by omega)
    refine j_aload_n (pc' := 14) dX5_keepBefore_13 rfl rfl ?_
    refine j_aload_n (pc' := 15) dX5_keepBefore_14 rfl rfl ?_
    refine j_getR (pc' := 18) f_X5_22 (by assumption) (by first | assumption | (simp (disch := omega) only [jx_upRS, jx_upRK, jx_upRA]; first | done | assumption)) dX5_keepBefore_15 rfl ?_
    refine j_aload_n (pc' := 19) dX5_keepBefore_18 rfl rfl ?_
    refine j_getIv (pc' := 22) f_X5_182 (by assumption) (by first | (simp (disch := omega) only [jx_upS, jx_upK, jx_upA, h3]; rfl) | rfl) dX5_keepBefore_19 rfl ?_
    first | refine j_aaldP (pc' := 23) (by assumption) rfl (by omega) (by omega) (by first | assumption | (simp (disch := omega) only [h3]; done)) dX5_keepBefore_22 rfl ?_ | refine j_aaldS (pc' := 23) (by assumption) rfl (by omega) (by omega) (by first | assumption | (simp (disch := omega) only [jx_upRS, jx_upRK, jx_upRA]; first | done | assumption)) dX5_keepBefore_22 rfl ?_
    refine j_putR (pc' := 26) f_X5_31 (by assumption) rfl rfl dX5_keepBefore_23 rfl ?_
    refine j_aload_n (pc' := 27) dX5_keepBefore_26 rfl rfl ?_
    refine j_getR (pc' := 30) f_X5_22 (by assumption) (by first | assumption | (simp (disch := omega) only [jx_upRS, jx_upRK, jx_upRA]; first | done | assumption)) dX5_keepBefore_27 rfl ?_
    refine j_aload_n (pc' := 31) dX5_keepBefore_30 rfl rfl ?_
    refine j_getIv (pc' := 34) f_X5_182 (by assumption) (by first | (simp (disch := omega) only [jx_upS, jx_upK, jx_upA, h3]; rfl) | rfl) dX5_keepBefore_31 rfl ?_
    refine j_aload_n (pc' := 35) dX5_keepBefore_34 rfl rfl ?_
    refine j_aastS (pc' := 36) (by assumption) rfl (by omega) (by omega) (by assumption) dX5_keepBefore_35 rfl ?_
    refine j_aload_n (pc' := 37) dX5_keepBefore_36 rfl rfl ?_
    refine j_dup (pc' := 38) dX5_keepBefore_37 rfl rfl ?_
    refine j_getIv (pc' := 41) f_X5_182 (by assumption) (by first | (simp (disch := omega) only [jx_upS, jx_upK, jx_upA, h3]; rfl) | rfl) dX5_keepBefore_38 rfl ?_
    refine j_iconst (pc' := 42) (v := nI 1) dX5_keepBefore_41 rfl rfl ?_
    first | refine j_iaddN' (pc' := 43) (by with_reducible rfl) (by with_reducible rfl) dX5_keepBefore_42 rfl ?_ | refine j_iadd (pc' := 43) dX5_keepBefore_42 rfl ?_
    refine j_putI (pc' := 46) f_X5_182 (by assumption) rfl rfl dX5_keepBefore_43 rfl ?_
    refine j_retvR dX5_keepBefore_46 rfl ?_
    refine ⟨fun j => P (if j = 5 then q else if j = q then 5 else j), hs.perm (fun j => if j = 5 then q else if j = q then 5 else j) (fun j hj => by (repeat' split) <;> omega) (fun i j hi hj hh => by revert hh; (repeat' split) <;> omega) (fun z h1 h2 => by funext y; simp (disch := omega) only [jx_upRS, jx_upRK, jx_upRA]) (by simp (disch := omega) only [jx_upRS, jx_upRK, jx_upRA]) (by simp (disch := omega) only [jx_upRS, jx_upRK, jx_upRA]) (by simp (disch := omega) only [jx_upRS, jx_upRK, jx_upRA]) (by rw [if_neg (by omega), if_neg (by omega)]; simp (disch := omega) only [jx_upRS, jx_upRK, jx_upRA]; exact R4) (by rw [if_pos rfl]; simp (disch := omega) only [jx_upRS, jx_upRK, jx_upRA]) (fun j hj => ?_), fun z h1 h2 h3 => funext fun y => jx_upA h1, fun z h1 h2 => by funext y; simp (disch := omega) only [jx_upRS, jx_upRK, jx_upRA], fun u hu => ?_⟩
    · rw [if_neg (by omega)]
      by_cases e : j = q
      · subst e; rw [if_pos rfl, jx_upRS]
      · rw [if_neg e]; simp (disch := omega) only [jx_upRS, jx_upRK, jx_upRA]; exact Rp j hj
    · have fr : ∀ i z, stA d (P i) ≤ z → z < stA d (P i) + 56 → jx_up I d 3 (nI (q + 1)) z = I z := fun i z a b => by have := hs.lo (j := i); funext y; exact jx_upA (by omega)
      refine ⟨?_, by unfold kpC; split <;> omega, ?_, fun j hj => ?_⟩
      · rw [jx_upS, kpC, if_neg (by omega)]
      · dsimp only; rw [if_neg (by omega), if_neg (by omega)]; exact h4.fr (fr 4)
      · rw [kpC, if_neg (by omega)] at hj
        dsimp only
        rw [if_neg (by omega)]
        by_cases e : j = q
        · subst e; rw [if_pos rfl]
          exact (h5.fr (fr 5)).cg (fun z hz => (kpP_b (by omega) hz).trans (hu z hz))
        · rw [if_neg e]
          exact ((hp j (by omega)).fr (fr j)).cg (fun z hz => kpP_a (by omega) (by omega) hz)

set_option maxRecDepth 100000 in
set_option maxHeartbeats 4000000 in
theorem c_X5_settle {E : jx_E} {l : Launch} {n : Nat} {kd : jx_K} {R : jx_R} {I : jx_I} {d : Nat} {P : Nat → Nat} {v w p : Nat → Int32} {q B : Nat} {x : Int32} (hs : sDk kd R d P) (h : dN I d P v w p q B) : jx_CiR E l yX5_settle cX5_settle 2 (some .int) 1 n kd R (I) [.ref d, .int x] (fun r R' I' => r = x ∧ ∃ P', sDk kd R' d P' ∧ dFr d I I' ∧ rFr d R R' ∧ (x ≤ -20001 → dM I' d P' w p q B) ∧ (¬ x ≤ -20001 → ∀ u, eqR u v → dM I' d P' w (kpP p q u) (kpC q) B)) := by
  obtain ⟨K0, K6, K7, R0, R1, R2, R4, R5, Rp, hsc, hst, hP6, hinj⟩ := id hs
  have S4 := hs.st (show 4 < 6 from by omega)
  have S5 := hs.st (show 5 < 6 from by omega)
  have K4 := S4.1
  have K5 := S5.1
  refine jx_CtR.ofJ RX5 [some (.ref d), some (.int x)] (by decide) rfl rfl (Nat.le_of_ble_eq_true rfl) rfl ?_
  refine j_iload_n (pc' := 1) dX5_settle_0 rfl rfl ?_
  refine j_cSi (pc' := 4) m_X5_108 (c_X5_isError _ _ _ _ _ _ _) rfl rfl ⟨Nat.le_of_ble_eq_true rfl, Nat.le_of_ble_eq_true rfl⟩ ⟨Nat.zero_le _, Nat.zero_le _⟩ (Nat.le_of_ble_eq_true rfl) dX5_settle_1 rfl (fun x1 I1 hq => ?_)
  obtain ⟨rfl, rfl⟩ := hq
  first | refine j_if_neB' (tgt := 11) (pc' := 7) (by with_reducible rfl) dX5_settle_4 rfl (by decide) (fun c4 => ?_) (fun c4 => ?_) | refine j_if_neN' (tgt := 11) (pc' := 7) (by with_reducible rfl) (by omega) dX5_settle_4 rfl (by decide) (fun c4 => ?_) (fun c4 => ?_) | refine j_if_ne (tgt := 11) (pc' := 7) dX5_settle_4 rfl (by decide) (fun c4 => ?_) (fun c4 => ?_)
  ·
    refine j_iload_n (pc' := 12) dX5_settle_11 rfl rfl ?_
    refine j_retiR dX5_settle_12 rfl (by first | rfl | exact bi_n _) ?_
    exact ⟨rfl, P, hs, dFr.r, rFr.r, fun _ => h.1, fun z => absurd (of_decide_eq_true c4) z⟩
  ·
    skip
    refine j_aload_n (pc' := 8) dX5_settle_7 rfl rfl ?_
    refine j_cVvR (pc' := 11) m_X5_203 (c_X5_keepBefore hs h) (by assumption) (by decide) rfl rfl rfl ⟨Nat.le_of_ble_eq_true rfl, Nat.le_of_ble_eq_true rfl⟩ ⟨Nat.zero_le _, Nat.zero_le _⟩ (Nat.le_of_ble_eq_true rfl) dX5_settle_8 rfl (fun R1 I1 hq => ?_)
    obtain ⟨P1, g1, g2, g3, g4⟩ := hq
    refine j_iload_n (pc' := 12) dX5_settle_11 rfl rfl ?_
    refine j_retiR dX5_settle_12 rfl (by first | rfl | exact bi_n _) ?_
    exact ⟨rfl, P1, g1, g2, g3, fun z => absurd z (of_decide_eq_false c4), fun _ => g4⟩

