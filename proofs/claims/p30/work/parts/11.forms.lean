/-! ===== reading behind writes; short forms of contracts; rows over natural numbers ===== -/
theorem jx_upS {I : jx_I} {a k : Nat} {x : Int32} : jx_up I a k x a k = x := by simp [jx_up, upd]
theorem jx_upK {I : jx_I} {a k b k' : Nat} {x : Int32} (h : k' ≠ k) : jx_up I a k x b k' = I b k' := by
  by_cases hb : b = a <;> simp [jx_up, upd, hb, h]
theorem jx_upA {I : jx_I} {a k b k' : Nat} {x : Int32} (h : b ≠ a) : jx_up I a k x b k' = I b k' := by simp [jx_up, h]
theorem jx_upRS {R : jx_R} {a k : Nat} {x : Option Nat} : jx_upR R a k x a k = x := by simp [jx_upR, va_up]
theorem jx_upRK {R : jx_R} {a k b k' : Nat} {x : Option Nat} (h : k' ≠ k) : jx_upR R a k x b k' = R b k' := by
  by_cases hb : b = a <;> simp [jx_upR, va_up, hb, h]
theorem jx_upRA {R : jx_R} {a k b k' : Nat} {x : Option Nat} (h : b ≠ a) : jx_upR R a k x b k' = R b k' := by simp [jx_upR, h]
def bi (b : Bool) : Int32 := cond b 1 0
theorem bi_t : bi true = 1 := rfl
theorem bi_f : bi false = 0 := rfl
theorem bi_n (b : Bool) : narrow .boolean (.int (bi b)) = .int (bi b) := by cases b <;> rfl
theorem bi_fit (b : Bool) : fits .boolean (.int (bi b)) = true := by cases b <;> rfl
theorem bi_0 {b : Bool} : bi b = 0 ↔ b = false := by cases b <;> simp [bi]
theorem bi_1 {b : Bool} : bi b = 1 ↔ b = true := by cases b <;> simp [bi]
theorem bi_inj {a b : Bool} : bi a = bi b ↔ a = b := by cases a <;> cases b <;> simp [bi]
def jx_Q0 (n : Nat) (kd : jx_K) (R : jx_R) (P : Option Value → jx_I → Prop) : jx_Q := fun v n' kd' R' I' => n' = n ∧ kd' = kd ∧ R' = R ∧ P v I'
def jx_Pi (P : Int32 → jx_I → Prop) : Option Value → jx_I → Prop := fun v I' => ∃ x : Int32, v = some (.int x) ∧ P x I'
def jx_Pv (P : jx_I → Prop) : Option Value → jx_I → Prop := fun v I' => v = none ∧ P I'
/-- contracts of methods that make nothing and turn no reference -/
def jx_C0 (E : jx_E) (l : Launch) (y : MethodName) (cd : ByteArray) (nL : Nat) (ret : Option FieldType) (d n : Nat) (kd : jx_K) (R : jx_R) (I : jx_I) (as : List Value) (P : Option Value → jx_I → Prop) : Prop := jx_Ct E l y cd nL ret d 0 0 n kd R I as (jx_Q0 n kd R P)
def jx_Ci (E : jx_E) (l : Launch) (y : MethodName) (cd : ByteArray) (nL : Nat) (ret : Option FieldType) (d n : Nat) (kd : jx_K) (R : jx_R) (I : jx_I) (as : List Value) (P : Int32 → jx_I → Prop) : Prop := jx_C0 E l y cd nL ret d n kd R I as (jx_Pi P)
def jx_Cv (E : jx_E) (l : Launch) (y : MethodName) (cd : ByteArray) (nL : Nat) (ret : Option FieldType) (d n : Nat) (kd : jx_K) (R : jx_R) (I : jx_I) (as : List Value) (P : jx_I → Prop) : Prop := jx_C0 E l y cd nL ret d n kd R I as (jx_Pv P)
abbrev jx_rm (d : Nat) : Room := { frames := d, cells := 0, slots := 0, locals := 32 * d }
theorem jx_C0.ofJ {E : jx_E} {l : Launch} {y : MethodName} {cd : ByteArray} {nL : Nat} {ret : Option FieldType} {d n : Nat} {kd : jx_K} {R : jx_R} {I : jx_I} {as : List Value} {P : Option Value → jx_I → Prop} (own : String) (lv : List (Option Value)) (hy : plainName y.cls = true) (ho : y.cls = own) (hi : (y.name == "<init>") = false) (hn : (lg_sl as).length ≤ nL) (hlv : jx_args as ++ List.replicate (nL - (lg_sl as).length) none = lv)
    (k : jx_J E l cd nL ret own false (jx_rm d) 0 0 (jx_Q0 n kd R P) 0 0 n kd R I 0 lv []) : jx_C0 E l y cd nL ret d n kd R I as P := by
  subst ho
  exact jx_Ct.ofJ false lv hy hi hn hlv k
theorem jx_Ct.post {E : jx_E} {l : Launch} {y : MethodName} {cd : ByteArray} {nL : Nat} {ret : Option FieldType} {d mc ms n : Nat} {kd : jx_K} {R : jx_R} {I : jx_I} {as : List Value} {Q Q' : jx_Q} (h : jx_Ct E l y cd nL ret d mc ms n kd R I as Q) (hq : ∀ v n' kd' R' I', Q v n' kd' R' I' → Q' v n' kd' R' I') : jx_Ct E l y cd nL ret d mc ms n kd R I as Q' := by
  intro p e ha hc hk s m args below hf happ hP hK
  obtain ⟨k, o, h1, h2, h3, ⟨⟨⟨v, n', kd', R', I', e1, e2, e3⟩, h4⟩, h5⟩⟩ := h p e ha hc hk s m args below hf happ hP hK
  exact ⟨k, o, h1, h2, h3, ⟨⟨⟨v, n', kd', R', I', e1, hq _ _ _ _ _ e2, e3⟩, h4⟩, h5⟩⟩
section JR
variable {E : jx_E} {l : Launch} {cd : ByteArray} {nL : Nat} {ret : Option FieldType} {own : String} {ini : Bool} {Rm : Room} {mc ms : Nat} {Q : jx_Q} {cells slots n : Nat} {kd : jx_K} {R : jx_R} {I : jx_I} {pc pc' : Nat} {lv : List (Option Value)} {st : List Value}
theorem j_reti {P : Int32 → jx_I → Prop} {x : Int32} {ty : FieldType} (hd : decode cd pc = .ok (.ireturn, 1)) (hr : ret = some ty) (hn : narrow ty (.int x) = .int x) (h : P x I) : jx_J E l cd nL ret own ini Rm 0 0 (jx_Q0 n kd R (jx_Pi P)) 0 0 n kd R I pc lv [.int x] :=
  j_ireturn hd hr hn ⟨rfl, rfl, rfl, x, rfl, h⟩
theorem j_retv {P : jx_I → Prop} (hd : decode cd pc = .ok (.return_, 1)) (hr : ret = none) (h : P I) : jx_J E l cd nL ret own ini Rm 0 0 (jx_Q0 n kd R (jx_Pv P)) 0 0 n kd R I pc lv [] :=
  j_return hd hr ⟨rfl, rfl, rfl, rfl, h⟩
theorem j_retA {P : Option Value → jx_I → Prop} {a : Nat} {nm : String} (hd : decode cd pc = .ok (.areturn, 1)) (hr : ret = some (.object nm)) (h : P (some (.ref a)) I) : jx_J E l cd nL ret own ini Rm 0 0 (jx_Q0 n kd R P) 0 0 n kd R I pc lv [.ref a] :=
  j_areturn hd hr ⟨rfl, rfl, rfl, h⟩
theorem j_retL {P : Option Value → jx_I → Prop} {x : Int64} (hd : decode cd pc = .ok (.lreturn, 1)) (hr : ret = some .long) (h : P (some (.long x)) I) : jx_J E l cd nL ret own ini Rm 0 0 (jx_Q0 n kd R P) 0 0 n kd R I pc lv [.long x] :=
  j_lreturn hd hr ⟨rfl, rfl, rfl, h⟩
theorem j_retF {P : Option Value → jx_I → Prop} {x : UInt32} (hd : decode cd pc = .ok (.freturn, 1)) (hr : ret = some .float) (h : P (some (.float x)) I) : jx_J E l cd nL ret own ini Rm 0 0 (jx_Q0 n kd R P) 0 0 n kd R I pc lv [.float x] :=
  j_freturn hd hr ⟨rfl, rfl, rfl, h⟩
variable {y : MethodName} {cd1 : ByteArray} {nL1 ix k1 d1 : Nat} {ret1 : Option FieldType} {As rest : List Value}
theorem j_cVi {C : String} {T : u_T} {b ci mm N : Nat} {P : Int32 → jx_I → Prop} (hm : jx_mV own ix C y cd1 nL1 ret1 k1) (hC : jx_Ci E l y cd1 nL1 ret1 d1 n kd R I (.ref b :: As) P) (hk : kd b = (ci, mm)) (hc7 : ci < 7) (hc : vwCl[ci]? = some (C, T, N)) (hs : As.reverse ++ .ref b :: rest = st) (hl1 : As.length = k1) (hR : d1 + 1 ≤ Rm.frames ∧ 8 + (nL1 + 11) + 32 * d1 ≤ Rm.locals) (hf : cells ≤ Rm.cells ∧ slots ≤ Rm.slots) (hcat : (rest.map fun v => v.category).sum ≤ 8) (hd : decode cd pc = .ok (.invokevirtual ix, 3)) (hp : pc + 3 = pc') (k : ∀ (x : Int32) (I1 : jx_I), P x I1 → jx_J E l cd nL ret own ini Rm mc ms Q cells slots n kd R I1 pc' lv (.int x :: rest)) : jx_J E l cd nL ret own ini Rm mc ms Q cells slots n kd R I pc lv st :=
  j_callV hm hC hk hc7 hc hs hl1 hR hf hcat hd hp (fun v n1 kd1 R1 I1 h _ => by
    obtain ⟨rfl, rfl, rfl, x, rfl, h⟩ := h
    exact k x I1 h)
theorem j_cSi {P : Int32 → jx_I → Prop} (hm : jx_mS own ix y cd1 nL1 ret1 k1) (hC : jx_Ci E l y cd1 nL1 ret1 d1 n kd R I As P) (hs : As.reverse ++ rest = st) (hl1 : As.length = k1) (hR : d1 + 1 ≤ Rm.frames ∧ 8 + (nL1 + 11) + 32 * d1 ≤ Rm.locals) (hf : cells ≤ Rm.cells ∧ slots ≤ Rm.slots) (hcat : (rest.map fun v => v.category).sum ≤ 8) (hd : decode cd pc = .ok (.invokestatic ix, 3)) (hp : pc + 3 = pc') (k : ∀ (x : Int32) (I1 : jx_I), P x I1 → jx_J E l cd nL ret own ini Rm mc ms Q cells slots n kd R I1 pc' lv (.int x :: rest)) : jx_J E l cd nL ret own ini Rm mc ms Q cells slots n kd R I pc lv st :=
  j_callS hm hC hs hl1 hR hf hcat hd hp (fun v n1 kd1 R1 I1 h _ => by
    obtain ⟨rfl, rfl, rfl, x, rfl, h⟩ := h
    exact k x I1 h)
theorem j_cSNi {P : Int32 → jx_I → Prop} (hm : jx_mSN own ix y cd1 nL1 ret1 k1) (hC : jx_Ci E l y cd1 nL1 ret1 d1 n kd R I As P) (hs : As.reverse ++ rest = st) (hl1 : As.length = k1) (hR : d1 + 1 ≤ Rm.frames ∧ 8 + (nL1 + 11) + 32 * d1 ≤ Rm.locals) (hf : cells ≤ Rm.cells ∧ slots ≤ Rm.slots) (hcat : (rest.map fun v => v.category).sum ≤ 8) (hd : decode cd pc = .ok (.invokestatic ix, 3)) (hp : pc + 3 = pc') (k : ∀ (x : Int32) (I1 : jx_I), P x I1 → jx_J E l cd nL ret own ini Rm mc ms Q cells slots n kd R I1 pc' lv (.int x :: rest)) : jx_J E l cd nL ret own ini Rm mc ms Q cells slots n kd R I pc lv st :=
  j_callSN hm hC hs hl1 hR hf hcat hd hp (fun v n1 kd1 R1 I1 h _ => by
    obtain ⟨rfl, rfl, rfl, x, rfl, h⟩ := h
    exact k x I1 h)
theorem j_cVv {C : String} {T : u_T} {b ci mm N : Nat} {P : jx_I → Prop} (hm : jx_mV own ix C y cd1 nL1 ret1 k1) (hC : jx_Cv E l y cd1 nL1 ret1 d1 n kd R I (.ref b :: As) P) (hk : kd b = (ci, mm)) (hc7 : ci < 7) (hc : vwCl[ci]? = some (C, T, N)) (hs : As.reverse ++ .ref b :: rest = st) (hl1 : As.length = k1) (hR : d1 + 1 ≤ Rm.frames ∧ 8 + (nL1 + 11) + 32 * d1 ≤ Rm.locals) (hf : cells ≤ Rm.cells ∧ slots ≤ Rm.slots) (hcat : (rest.map fun v => v.category).sum ≤ 8) (hd : decode cd pc = .ok (.invokevirtual ix, 3)) (hp : pc + 3 = pc') (k : ∀ (I1 : jx_I), P I1 → jx_J E l cd nL ret own ini Rm mc ms Q cells slots n kd R I1 pc' lv rest) : jx_J E l cd nL ret own ini Rm mc ms Q cells slots n kd R I pc lv st :=
  j_callV hm hC hk hc7 hc hs hl1 hR hf hcat hd hp (fun v n1 kd1 R1 I1 h _ => by
    obtain ⟨rfl, rfl, rfl, rfl, h⟩ := h
    exact k I1 h)
theorem j_cSv {P : jx_I → Prop} (hm : jx_mS own ix y cd1 nL1 ret1 k1) (hC : jx_Cv E l y cd1 nL1 ret1 d1 n kd R I As P) (hs : As.reverse ++ rest = st) (hl1 : As.length = k1) (hR : d1 + 1 ≤ Rm.frames ∧ 8 + (nL1 + 11) + 32 * d1 ≤ Rm.locals) (hf : cells ≤ Rm.cells ∧ slots ≤ Rm.slots) (hcat : (rest.map fun v => v.category).sum ≤ 8) (hd : decode cd pc = .ok (.invokestatic ix, 3)) (hp : pc + 3 = pc') (k : ∀ (I1 : jx_I), P I1 → jx_J E l cd nL ret own ini Rm mc ms Q cells slots n kd R I1 pc' lv rest) : jx_J E l cd nL ret own ini Rm mc ms Q cells slots n kd R I pc lv st :=
  j_callS hm hC hs hl1 hR hf hcat hd hp (fun v n1 kd1 R1 I1 h _ => by
    obtain ⟨rfl, rfl, rfl, rfl, h⟩ := h
    exact k I1 h)
theorem j_cSNv {P : jx_I → Prop} (hm : jx_mSN own ix y cd1 nL1 ret1 k1) (hC : jx_Cv E l y cd1 nL1 ret1 d1 n kd R I As P) (hs : As.reverse ++ rest = st) (hl1 : As.length = k1) (hR : d1 + 1 ≤ Rm.frames ∧ 8 + (nL1 + 11) + 32 * d1 ≤ Rm.locals) (hf : cells ≤ Rm.cells ∧ slots ≤ Rm.slots) (hcat : (rest.map fun v => v.category).sum ≤ 8) (hd : decode cd pc = .ok (.invokestatic ix, 3)) (hp : pc + 3 = pc') (k : ∀ (I1 : jx_I), P I1 → jx_J E l cd nL ret own ini Rm mc ms Q cells slots n kd R I1 pc' lv rest) : jx_J E l cd nL ret own ini Rm mc ms Q cells slots n kd R I pc lv st :=
  j_callSN hm hC hs hl1 hR hf hcat hd hp (fun v n1 kd1 R1 I1 h _ => by
    obtain ⟨rfl, rfl, rfl, rfl, h⟩ := h
    exact k I1 h)
theorem j_cV0 {C : String} {T : u_T} {b ci mm N : Nat} {P : Option Value → jx_I → Prop} (hm : jx_mV own ix C y cd1 nL1 ret1 k1) (hC : jx_C0 E l y cd1 nL1 ret1 d1 n kd R I (.ref b :: As) P) (hk : kd b = (ci, mm)) (hc7 : ci < 7) (hc : vwCl[ci]? = some (C, T, N)) (hs : As.reverse ++ .ref b :: rest = st) (hl1 : As.length = k1) (hR : d1 + 1 ≤ Rm.frames ∧ 8 + (nL1 + 11) + 32 * d1 ≤ Rm.locals) (hf : cells ≤ Rm.cells ∧ slots ≤ Rm.slots) (hcat : (rest.map fun v => v.category).sum ≤ 8) (hd : decode cd pc = .ok (.invokevirtual ix, 3)) (hp : pc + 3 = pc') (k : ∀ (v : Option Value) (I1 : jx_I), P v I1 → jx_J E l cd nL ret own ini Rm mc ms Q cells slots n kd R I1 pc' lv (v.toList ++ rest)) : jx_J E l cd nL ret own ini Rm mc ms Q cells slots n kd R I pc lv st :=
  j_callV hm hC hk hc7 hc hs hl1 hR hf hcat hd hp (fun v n1 kd1 R1 I1 h _ => by
    obtain ⟨rfl, rfl, rfl, h⟩ := h
    exact k v I1 h)
theorem j_cS0 {P : Option Value → jx_I → Prop} (hm : jx_mS own ix y cd1 nL1 ret1 k1) (hC : jx_C0 E l y cd1 nL1 ret1 d1 n kd R I As P) (hs : As.reverse ++ rest = st) (hl1 : As.length = k1) (hR : d1 + 1 ≤ Rm.frames ∧ 8 + (nL1 + 11) + 32 * d1 ≤ Rm.locals) (hf : cells ≤ Rm.cells ∧ slots ≤ Rm.slots) (hcat : (rest.map fun v => v.category).sum ≤ 8) (hd : decode cd pc = .ok (.invokestatic ix, 3)) (hp : pc + 3 = pc') (k : ∀ (v : Option Value) (I1 : jx_I), P v I1 → jx_J E l cd nL ret own ini Rm mc ms Q cells slots n kd R I1 pc' lv (v.toList ++ rest)) : jx_J E l cd nL ret own ini Rm mc ms Q cells slots n kd R I pc lv st :=
  j_callS hm hC hs hl1 hR hf hcat hd hp (fun v n1 kd1 R1 I1 h _ => by
    obtain ⟨rfl, rfl, rfl, h⟩ := h
    exact k v I1 h)
theorem j_cSN0 {P : Option Value → jx_I → Prop} (hm : jx_mSN own ix y cd1 nL1 ret1 k1) (hC : jx_C0 E l y cd1 nL1 ret1 d1 n kd R I As P) (hs : As.reverse ++ rest = st) (hl1 : As.length = k1) (hR : d1 + 1 ≤ Rm.frames ∧ 8 + (nL1 + 11) + 32 * d1 ≤ Rm.locals) (hf : cells ≤ Rm.cells ∧ slots ≤ Rm.slots) (hcat : (rest.map fun v => v.category).sum ≤ 8) (hd : decode cd pc = .ok (.invokestatic ix, 3)) (hp : pc + 3 = pc') (k : ∀ (v : Option Value) (I1 : jx_I), P v I1 → jx_J E l cd nL ret own ini Rm mc ms Q cells slots n kd R I1 pc' lv (v.toList ++ rest)) : jx_J E l cd nL ret own ini Rm mc ms Q cells slots n kd R I pc lv st :=
  j_callSN hm hC hs hl1 hR hf hcat hd hp (fun v n1 kd1 R1 I1 h _ => by
    obtain ⟨rfl, rfl, rfl, h⟩ := h
    exact k v I1 h)
theorem j_iaddN {a b : Nat} (hd : decode cd pc = .ok (.iadd, 1)) (hp : pc + 1 = pc') (k : jx_J E l cd nL ret own ini Rm mc ms Q cells slots n kd R I pc' lv (.int (nI (a + b)) :: st)) : jx_J E l cd nL ret own ini Rm mc ms Q cells slots n kd R I pc lv (.int (nI b) :: .int (nI a) :: st) := j_iadd hd hp (by rw [nI_add]; exact k)
theorem j_imulN {a b : Nat} (hd : decode cd pc = .ok (.imul, 1)) (hp : pc + 1 = pc') (k : jx_J E l cd nL ret own ini Rm mc ms Q cells slots n kd R I pc' lv (.int (nI (a * b)) :: st)) : jx_J E l cd nL ret own ini Rm mc ms Q cells slots n kd R I pc lv (.int (nI b) :: .int (nI a) :: st) := j_imul hd hp (by rw [pk_mul]; exact k)
theorem j_isubN {a b : Nat} (hab : b ≤ a) (hd : decode cd pc = .ok (.isub, 1)) (hp : pc + 1 = pc') (k : jx_J E l cd nL ret own ini Rm mc ms Q cells slots n kd R I pc' lv (.int (nI (a - b)) :: st)) : jx_J E l cd nL ret own ini Rm mc ms Q cells slots n kd R I pc lv (.int (nI b) :: .int (nI a) :: st) := j_isub hd hp (by rw [pk_sub hab]; exact k)
theorem j_iremN {a b : Nat} (ha : a < 2147483648) (h0 : 0 < b) (hb : b < 2147483648) (hd : decode cd pc = .ok (.irem, 1)) (hp : pc + 1 = pc') (k : jx_J E l cd nL ret own ini Rm mc ms Q cells slots n kd R I pc' lv (.int (nI (a % b)) :: st)) : jx_J E l cd nL ret own ini Rm mc ms Q cells slots n kd R I pc lv (.int (nI b) :: .int (nI a) :: st) := j_irem hd hp (nI_ne0 h0 hb) (by rw [pk_rem ha h0 hb]; exact k)
theorem j_idivN {a b : Nat} (ha : a < 2147483648) (h0 : 0 < b) (hb : b < 2147483648) (hd : decode cd pc = .ok (.idiv, 1)) (hp : pc + 1 = pc') (k : jx_J E l cd nL ret own ini Rm mc ms Q cells slots n kd R I pc' lv (.int (nI (a / b)) :: st)) : jx_J E l cd nL ret own ini Rm mc ms Q cells slots n kd R I pc lv (.int (nI b) :: .int (nI a) :: st) := j_idiv hd hp (nI_ne0 h0 hb) (by rw [pk_div ha h0 hb]; exact k)
theorem j_iincN {i a : Nat} {lv' : List (Option Value)} (hd : decode cd pc = .ok (.iinc i 1, 3)) (hp : pc + 3 = pc') (hx : lv[i]? = some (some (.int (nI a)))) (hn : i < nL) (hi : jx_st1 lv i (.int (nI (a + 1))) = lv') (k : jx_J E l cd nL ret own ini Rm mc ms Q cells slots n kd R I pc' lv' st) : jx_J E l cd nL ret own ini Rm mc ms Q cells slots n kd R I pc lv st := j_iinc hd hp hx (show nI a + 1 = nI (a + 1) from nI_1 a) hn hi k
theorem j_iincP {i a : Nat} {lv' : List (Option Value)} (ha : 0 < a) (hd : decode cd pc = .ok (.iinc i (-1), 3)) (hp : pc + 3 = pc') (hx : lv[i]? = some (some (.int (nI a)))) (hn : i < nL) (hi : jx_st1 lv i (.int (nI (a - 1))) = lv') (k : jx_J E l cd nL ret own ini Rm mc ms Q cells slots n kd R I pc' lv' st) : jx_J E l cd nL ret own ini Rm mc ms Q cells slots n kd R I pc lv st := j_iinc hd hp hx (by obtain ⟨b, rfl⟩ : ∃ b, a = b + 1 := ⟨a - 1, by omega⟩; exact pk_m1 b) hn hi k
theorem j_icmp_eqN {a b : Nat} {off : Int} {tgt : Nat} (ha : a < 2147483648) (hb : b < 2147483648) (hd : decode cd pc = .ok (.if_icmp .eq off, 3)) (hp : pc + 3 = pc') (ht : (pc : Int) + off = (tgt : Int)) (kt : a = b → jx_J E l cd nL ret own ini Rm mc ms Q cells slots n kd R I tgt lv st) (kf : a ≠ b → jx_J E l cd nL ret own ini Rm mc ms Q cells slots n kd R I pc' lv st) : jx_J E l cd nL ret own ini Rm mc ms Q cells slots n kd R I pc lv (.int (nI b) :: .int (nI a) :: st) :=
  j_icmp_eq hd hp ht (fun h => kt ((nI_eq ha hb).mp h)) (fun h => kf (fun z => h ((nI_eq ha hb).mpr z)))
theorem j_if_eqN {a : Nat} {off : Int} {tgt : Nat} (ha : a < 2147483648) (hd : decode cd pc = .ok (.ifCond .eq off, 3)) (hp : pc + 3 = pc') (ht : (pc : Int) + off = (tgt : Int)) (kt : a = 0 → jx_J E l cd nL ret own ini Rm mc ms Q cells slots n kd R I tgt lv st) (kf : a ≠ 0 → jx_J E l cd nL ret own ini Rm mc ms Q cells slots n kd R I pc' lv st) : jx_J E l cd nL ret own ini Rm mc ms Q cells slots n kd R I pc lv (.int (nI a) :: st) :=
  j_if_eq hd hp ht (fun h => kt ((nI_eq ha (by decide : 0 < 2147483648)).mp h)) (fun h => kf (fun z => h ((nI_eq ha (by decide : 0 < 2147483648)).mpr z)))
theorem j_icmp_neN {a b : Nat} {off : Int} {tgt : Nat} (ha : a < 2147483648) (hb : b < 2147483648) (hd : decode cd pc = .ok (.if_icmp .ne off, 3)) (hp : pc + 3 = pc') (ht : (pc : Int) + off = (tgt : Int)) (kt : a ≠ b → jx_J E l cd nL ret own ini Rm mc ms Q cells slots n kd R I tgt lv st) (kf : a = b → jx_J E l cd nL ret own ini Rm mc ms Q cells slots n kd R I pc' lv st) : jx_J E l cd nL ret own ini Rm mc ms Q cells slots n kd R I pc lv (.int (nI b) :: .int (nI a) :: st) :=
  j_icmp_ne hd hp ht (fun h => kt (fun z => h ((nI_eq ha hb).mpr z))) (fun h => kf ((nI_eq ha hb).mp h))
theorem j_if_neN {a : Nat} {off : Int} {tgt : Nat} (ha : a < 2147483648) (hd : decode cd pc = .ok (.ifCond .ne off, 3)) (hp : pc + 3 = pc') (ht : (pc : Int) + off = (tgt : Int)) (kt : a ≠ 0 → jx_J E l cd nL ret own ini Rm mc ms Q cells slots n kd R I tgt lv st) (kf : a = 0 → jx_J E l cd nL ret own ini Rm mc ms Q cells slots n kd R I pc' lv st) : jx_J E l cd nL ret own ini Rm mc ms Q cells slots n kd R I pc lv (.int (nI a) :: st) :=
  j_if_ne hd hp ht (fun h => kt (fun z => h ((nI_eq ha (by decide : 0 < 2147483648)).mpr z))) (fun h => kf ((nI_eq ha (by decide : 0 < 2147483648)).mp h))
theorem j_icmp_ltN {a b : Nat} {off : Int} {tgt : Nat} (ha : a < 2147483648) (hb : b < 2147483648) (hd : decode cd pc = .ok (.if_icmp .lt off, 3)) (hp : pc + 3 = pc') (ht : (pc : Int) + off = (tgt : Int)) (kt : a < b → jx_J E l cd nL ret own ini Rm mc ms Q cells slots n kd R I tgt lv st) (kf : b ≤ a → jx_J E l cd nL ret own ini Rm mc ms Q cells slots n kd R I pc' lv st) : jx_J E l cd nL ret own ini Rm mc ms Q cells slots n kd R I pc lv (.int (nI b) :: .int (nI a) :: st) :=
  j_icmp_lt hd hp ht (fun h => kt ((nI_ltI ha hb).mp h)) (fun h => kf (Nat.not_lt.mp fun z => h ((nI_ltI ha hb).mpr z)))
theorem j_if_ltN {a : Nat} {off : Int} {tgt : Nat} (ha : a < 2147483648) (hd : decode cd pc = .ok (.ifCond .lt off, 3)) (hp : pc + 3 = pc') (ht : (pc : Int) + off = (tgt : Int)) (kt : a < 0 → jx_J E l cd nL ret own ini Rm mc ms Q cells slots n kd R I tgt lv st) (kf : 0 ≤ a → jx_J E l cd nL ret own ini Rm mc ms Q cells slots n kd R I pc' lv st) : jx_J E l cd nL ret own ini Rm mc ms Q cells slots n kd R I pc lv (.int (nI a) :: st) :=
  j_if_lt hd hp ht (fun h => kt ((nI_ltI ha (by decide : 0 < 2147483648)).mp h)) (fun h => kf (Nat.not_lt.mp fun z => h ((nI_ltI ha (by decide : 0 < 2147483648)).mpr z)))
theorem j_icmp_geN {a b : Nat} {off : Int} {tgt : Nat} (ha : a < 2147483648) (hb : b < 2147483648) (hd : decode cd pc = .ok (.if_icmp .ge off, 3)) (hp : pc + 3 = pc') (ht : (pc : Int) + off = (tgt : Int)) (kt : b ≤ a → jx_J E l cd nL ret own ini Rm mc ms Q cells slots n kd R I tgt lv st) (kf : a < b → jx_J E l cd nL ret own ini Rm mc ms Q cells slots n kd R I pc' lv st) : jx_J E l cd nL ret own ini Rm mc ms Q cells slots n kd R I pc lv (.int (nI b) :: .int (nI a) :: st) :=
  j_icmp_ge hd hp ht (fun h => kt ((nI_leI hb ha).mp h)) (fun h => kf (Nat.not_le.mp fun z => h ((nI_leI hb ha).mpr z)))
theorem j_if_geN {a : Nat} {off : Int} {tgt : Nat} (ha : a < 2147483648) (hd : decode cd pc = .ok (.ifCond .ge off, 3)) (hp : pc + 3 = pc') (ht : (pc : Int) + off = (tgt : Int)) (kt : 0 ≤ a → jx_J E l cd nL ret own ini Rm mc ms Q cells slots n kd R I tgt lv st) (kf : a < 0 → jx_J E l cd nL ret own ini Rm mc ms Q cells slots n kd R I pc' lv st) : jx_J E l cd nL ret own ini Rm mc ms Q cells slots n kd R I pc lv (.int (nI a) :: st) :=
  j_if_ge hd hp ht (fun h => kt ((nI_leI (by decide : 0 < 2147483648) ha).mp h)) (fun h => kf (Nat.not_le.mp fun z => h ((nI_leI (by decide : 0 < 2147483648) ha).mpr z)))
theorem j_icmp_gtN {a b : Nat} {off : Int} {tgt : Nat} (ha : a < 2147483648) (hb : b < 2147483648) (hd : decode cd pc = .ok (.if_icmp .gt off, 3)) (hp : pc + 3 = pc') (ht : (pc : Int) + off = (tgt : Int)) (kt : b < a → jx_J E l cd nL ret own ini Rm mc ms Q cells slots n kd R I tgt lv st) (kf : a ≤ b → jx_J E l cd nL ret own ini Rm mc ms Q cells slots n kd R I pc' lv st) : jx_J E l cd nL ret own ini Rm mc ms Q cells slots n kd R I pc lv (.int (nI b) :: .int (nI a) :: st) :=
  j_icmp_gt hd hp ht (fun h => kt ((nI_ltI hb ha).mp h)) (fun h => kf (Nat.not_lt.mp fun z => h ((nI_ltI hb ha).mpr z)))
theorem j_if_gtN {a : Nat} {off : Int} {tgt : Nat} (ha : a < 2147483648) (hd : decode cd pc = .ok (.ifCond .gt off, 3)) (hp : pc + 3 = pc') (ht : (pc : Int) + off = (tgt : Int)) (kt : 0 < a → jx_J E l cd nL ret own ini Rm mc ms Q cells slots n kd R I tgt lv st) (kf : a ≤ 0 → jx_J E l cd nL ret own ini Rm mc ms Q cells slots n kd R I pc' lv st) : jx_J E l cd nL ret own ini Rm mc ms Q cells slots n kd R I pc lv (.int (nI a) :: st) :=
  j_if_gt hd hp ht (fun h => kt ((nI_ltI (by decide : 0 < 2147483648) ha).mp h)) (fun h => kf (Nat.not_lt.mp fun z => h ((nI_ltI (by decide : 0 < 2147483648) ha).mpr z)))
theorem j_icmp_leN {a b : Nat} {off : Int} {tgt : Nat} (ha : a < 2147483648) (hb : b < 2147483648) (hd : decode cd pc = .ok (.if_icmp .le off, 3)) (hp : pc + 3 = pc') (ht : (pc : Int) + off = (tgt : Int)) (kt : a ≤ b → jx_J E l cd nL ret own ini Rm mc ms Q cells slots n kd R I tgt lv st) (kf : b < a → jx_J E l cd nL ret own ini Rm mc ms Q cells slots n kd R I pc' lv st) : jx_J E l cd nL ret own ini Rm mc ms Q cells slots n kd R I pc lv (.int (nI b) :: .int (nI a) :: st) :=
  j_icmp_le hd hp ht (fun h => kt ((nI_leI ha hb).mp h)) (fun h => kf (Nat.not_le.mp fun z => h ((nI_leI ha hb).mpr z)))
theorem j_if_leN {a : Nat} {off : Int} {tgt : Nat} (ha : a < 2147483648) (hd : decode cd pc = .ok (.ifCond .le off, 3)) (hp : pc + 3 = pc') (ht : (pc : Int) + off = (tgt : Int)) (kt : a ≤ 0 → jx_J E l cd nL ret own ini Rm mc ms Q cells slots n kd R I tgt lv st) (kf : 0 < a → jx_J E l cd nL ret own ini Rm mc ms Q cells slots n kd R I pc' lv st) : jx_J E l cd nL ret own ini Rm mc ms Q cells slots n kd R I pc lv (.int (nI a) :: st) :=
  j_if_le hd hp ht (fun h => kt ((nI_leI ha (by decide : 0 < 2147483648)).mp h)) (fun h => kf (Nat.not_le.mp fun z => h ((nI_leI ha (by decide : 0 < 2147483648)).mpr z)))
theorem j_if_eqB {b : Bool} {off : Int} {tgt : Nat} (hd : decode cd pc = .ok (.ifCond .eq off, 3)) (hp : pc + 3 = pc') (ht : (pc : Int) + off = (tgt : Int)) (kt : b = false → jx_J E l cd nL ret own ini Rm mc ms Q cells slots n kd R I tgt lv st) (kf : b = true → jx_J E l cd nL ret own ini Rm mc ms Q cells slots n kd R I pc' lv st) : jx_J E l cd nL ret own ini Rm mc ms Q cells slots n kd R I pc lv (.int (bi b) :: st) :=
  j_if_eq hd hp ht (fun h => kt (bi_0.mp h)) (fun h => kf (by cases b; exact absurd rfl h; rfl))
theorem j_if_neB {b : Bool} {off : Int} {tgt : Nat} (hd : decode cd pc = .ok (.ifCond .ne off, 3)) (hp : pc + 3 = pc') (ht : (pc : Int) + off = (tgt : Int)) (kt : b = true → jx_J E l cd nL ret own ini Rm mc ms Q cells slots n kd R I tgt lv st) (kf : b = false → jx_J E l cd nL ret own ini Rm mc ms Q cells slots n kd R I pc' lv st) : jx_J E l cd nL ret own ini Rm mc ms Q cells slots n kd R I pc lv (.int (bi b) :: st) :=
  j_if_ne hd hp ht (fun h => kt (by cases b; exact absurd rfl h; rfl)) (fun h => kf (bi_0.mp h))
end JR
section JR
variable {E : jx_E} {l : Launch} {cd : ByteArray} {nL : Nat} {ret : Option FieldType} {own : String} {ini : Bool} {Rm : Room} {mc ms : Nat} {Q : jx_Q} {cells slots n : Nat} {kd : jx_K} {R : jx_R} {I : jx_I} {pc pc' : Nat} {lv : List (Option Value)} {st : List Value}
theorem j_getIv {ix ci k0 a mm : Nat} {ty : FieldType} {fin : Bool} {v : Int32} (hf : jx_fl own ix ci k0 false ty fin) (hk : kd a = (ci, mm)) (hv : I a k0 = v) (hd : decode cd pc = .ok (.getfield ix, 3)) (hp : pc + 3 = pc') (k : jx_J E l cd nL ret own ini Rm mc ms Q cells slots n kd R I pc' lv (.int v :: st)) : jx_J E l cd nL ret own ini Rm mc ms Q cells slots n kd R I pc lv (.ref a :: st) := j_getI hf hk hd hp (by rw [hv]; exact k)
theorem j_ialdv {a mm j : Nat} {i v : Int32} (hk : kd a = (7, mm)) (hi : i = nI j) (hj : j < mm) (hm : mm < 2147483648) (hv : I a j = v) (hd : decode cd pc = .ok (.iaload, 1)) (hp : pc + 1 = pc') (k : jx_J E l cd nL ret own ini Rm mc ms Q cells slots n kd R I pc' lv (.int v :: st)) : jx_J E l cd nL ret own ini Rm mc ms Q cells slots n kd R I pc lv (.int i :: .ref a :: st) := j_iald hk hi hj hm hd hp (by rw [hv]; exact k)
end JR
theorem nI1 : nI 1 = 1 := rfl
theorem bi_T {b : Bool} (h : b = true) : nI 1 = bi b := by rw [h]; rfl
theorem bi_F {b : Bool} (h : b = false) : nI 0 = bi b := by rw [h]; rfl
theorem ic_nlt {x y : Int32} : ¬ x < y ↔ y ≤ x := Int32.not_lt
theorem ic_nle {x y : Int32} : ¬ x ≤ y ↔ y < x := Int32.not_le
section JR
variable {E : jx_E} {l : Launch} {cd : ByteArray} {nL : Nat} {ret : Option FieldType} {own : String} {ini : Bool} {Rm : Room} {mc ms : Nat} {Q : jx_Q} {cells slots n : Nat} {kd : jx_K} {R : jx_R} {I : jx_I} {pc pc' : Nat} {lv : List (Option Value)} {st : List Value}
theorem j_iaddN'  {x y : Int32} {a b : Nat} (hx : x = nI a) (hy : y = nI b) (hd : decode cd pc = .ok (.iadd, 1)) (hp : pc + 1 = pc') (k : jx_J E l cd nL ret own ini Rm mc ms Q cells slots n kd R I pc' lv (.int (nI (a + b)) :: st)) : jx_J E l cd nL ret own ini Rm mc ms Q cells slots n kd R I pc lv (.int y :: .int x :: st) := by
  subst hx; subst hy
  exact j_iaddN  hd hp k
theorem j_imulN'  {x y : Int32} {a b : Nat} (hx : x = nI a) (hy : y = nI b) (hd : decode cd pc = .ok (.imul, 1)) (hp : pc + 1 = pc') (k : jx_J E l cd nL ret own ini Rm mc ms Q cells slots n kd R I pc' lv (.int (nI (a * b)) :: st)) : jx_J E l cd nL ret own ini Rm mc ms Q cells slots n kd R I pc lv (.int y :: .int x :: st) := by
  subst hx; subst hy
  exact j_imulN  hd hp k
theorem j_isubN'  {x y : Int32} {a b : Nat} (hx : x = nI a) (hy : y = nI b) (hab : b ≤ a) (hd : decode cd pc = .ok (.isub, 1)) (hp : pc + 1 = pc') (k : jx_J E l cd nL ret own ini Rm mc ms Q cells slots n kd R I pc' lv (.int (nI (a - b)) :: st)) : jx_J E l cd nL ret own ini Rm mc ms Q cells slots n kd R I pc lv (.int y :: .int x :: st) := by
  subst hx; subst hy
  exact j_isubN hab hd hp k
theorem j_iremN'  {x y : Int32} {a b : Nat} (hx : x = nI a) (hy : y = nI b) (ha : a < 2147483648) (h0 : 0 < b) (hb : b < 2147483648) (hd : decode cd pc = .ok (.irem, 1)) (hp : pc + 1 = pc') (k : jx_J E l cd nL ret own ini Rm mc ms Q cells slots n kd R I pc' lv (.int (nI (a % b)) :: st)) : jx_J E l cd nL ret own ini Rm mc ms Q cells slots n kd R I pc lv (.int y :: .int x :: st) := by
  subst hx; subst hy
  exact j_iremN ha h0 hb hd hp k
theorem j_idivN'  {x y : Int32} {a b : Nat} (hx : x = nI a) (hy : y = nI b) (ha : a < 2147483648) (h0 : 0 < b) (hb : b < 2147483648) (hd : decode cd pc = .ok (.idiv, 1)) (hp : pc + 1 = pc') (k : jx_J E l cd nL ret own ini Rm mc ms Q cells slots n kd R I pc' lv (.int (nI (a / b)) :: st)) : jx_J E l cd nL ret own ini Rm mc ms Q cells slots n kd R I pc lv (.int y :: .int x :: st) := by
  subst hx; subst hy
  exact j_idivN ha h0 hb hd hp k
theorem j_icmp_eqN'  {x y : Int32} {a b : Nat} (hx : x = nI a) (hy : y = nI b) {off : Int} {tgt : Nat} (ha : a < 2147483648) (hb : b < 2147483648) (hd : decode cd pc = .ok (.if_icmp .eq off, 3)) (hp : pc + 3 = pc') (ht : (pc : Int) + off = (tgt : Int)) (kt : a = b → jx_J E l cd nL ret own ini Rm mc ms Q cells slots n kd R I tgt lv st) (kf : a ≠ b → jx_J E l cd nL ret own ini Rm mc ms Q cells slots n kd R I pc' lv st) : jx_J E l cd nL ret own ini Rm mc ms Q cells slots n kd R I pc lv (.int y :: .int x :: st) := by
  subst hx; subst hy
  exact j_icmp_eqN ha hb hd hp ht kt kf
theorem j_if_eqN' {x : Int32} {a : Nat} (hx : x = nI a) {off : Int} {tgt : Nat} (ha : a < 2147483648) (hd : decode cd pc = .ok (.ifCond .eq off, 3)) (hp : pc + 3 = pc') (ht : (pc : Int) + off = (tgt : Int)) (kt : a = 0 → jx_J E l cd nL ret own ini Rm mc ms Q cells slots n kd R I tgt lv st) (kf : a ≠ 0 → jx_J E l cd nL ret own ini Rm mc ms Q cells slots n kd R I pc' lv st) : jx_J E l cd nL ret own ini Rm mc ms Q cells slots n kd R I pc lv (.int x :: st) := by
  subst hx
  exact j_if_eqN ha hd hp ht kt kf
theorem j_icmp_neN'  {x y : Int32} {a b : Nat} (hx : x = nI a) (hy : y = nI b) {off : Int} {tgt : Nat} (ha : a < 2147483648) (hb : b < 2147483648) (hd : decode cd pc = .ok (.if_icmp .ne off, 3)) (hp : pc + 3 = pc') (ht : (pc : Int) + off = (tgt : Int)) (kt : a ≠ b → jx_J E l cd nL ret own ini Rm mc ms Q cells slots n kd R I tgt lv st) (kf : a = b → jx_J E l cd nL ret own ini Rm mc ms Q cells slots n kd R I pc' lv st) : jx_J E l cd nL ret own ini Rm mc ms Q cells slots n kd R I pc lv (.int y :: .int x :: st) := by
  subst hx; subst hy
  exact j_icmp_neN ha hb hd hp ht kt kf
theorem j_if_neN' {x : Int32} {a : Nat} (hx : x = nI a) {off : Int} {tgt : Nat} (ha : a < 2147483648) (hd : decode cd pc = .ok (.ifCond .ne off, 3)) (hp : pc + 3 = pc') (ht : (pc : Int) + off = (tgt : Int)) (kt : a ≠ 0 → jx_J E l cd nL ret own ini Rm mc ms Q cells slots n kd R I tgt lv st) (kf : a = 0 → jx_J E l cd nL ret own ini Rm mc ms Q cells slots n kd R I pc' lv st) : jx_J E l cd nL ret own ini Rm mc ms Q cells slots n kd R I pc lv (.int x :: st) := by
  subst hx
  exact j_if_neN ha hd hp ht kt kf
theorem j_icmp_ltN'  {x y : Int32} {a b : Nat} (hx : x = nI a) (hy : y = nI b) {off : Int} {tgt : Nat} (ha : a < 2147483648) (hb : b < 2147483648) (hd : decode cd pc = .ok (.if_icmp .lt off, 3)) (hp : pc + 3 = pc') (ht : (pc : Int) + off = (tgt : Int)) (kt : a < b → jx_J E l cd nL ret own ini Rm mc ms Q cells slots n kd R I tgt lv st) (kf : b ≤ a → jx_J E l cd nL ret own ini Rm mc ms Q cells slots n kd R I pc' lv st) : jx_J E l cd nL ret own ini Rm mc ms Q cells slots n kd R I pc lv (.int y :: .int x :: st) := by
  subst hx; subst hy
  exact j_icmp_ltN ha hb hd hp ht kt kf
theorem j_if_ltN' {x : Int32} {a : Nat} (hx : x = nI a) {off : Int} {tgt : Nat} (ha : a < 2147483648) (hd : decode cd pc = .ok (.ifCond .lt off, 3)) (hp : pc + 3 = pc') (ht : (pc : Int) + off = (tgt : Int)) (kt : a < 0 → jx_J E l cd nL ret own ini Rm mc ms Q cells slots n kd R I tgt lv st) (kf : 0 ≤ a → jx_J E l cd nL ret own ini Rm mc ms Q cells slots n kd R I pc' lv st) : jx_J E l cd nL ret own ini Rm mc ms Q cells slots n kd R I pc lv (.int x :: st) := by
  subst hx
  exact j_if_ltN ha hd hp ht kt kf
theorem j_icmp_geN'  {x y : Int32} {a b : Nat} (hx : x = nI a) (hy : y = nI b) {off : Int} {tgt : Nat} (ha : a < 2147483648) (hb : b < 2147483648) (hd : decode cd pc = .ok (.if_icmp .ge off, 3)) (hp : pc + 3 = pc') (ht : (pc : Int) + off = (tgt : Int)) (kt : b ≤ a → jx_J E l cd nL ret own ini Rm mc ms Q cells slots n kd R I tgt lv st) (kf : a < b → jx_J E l cd nL ret own ini Rm mc ms Q cells slots n kd R I pc' lv st) : jx_J E l cd nL ret own ini Rm mc ms Q cells slots n kd R I pc lv (.int y :: .int x :: st) := by
  subst hx; subst hy
  exact j_icmp_geN ha hb hd hp ht kt kf
theorem j_if_geN' {x : Int32} {a : Nat} (hx : x = nI a) {off : Int} {tgt : Nat} (ha : a < 2147483648) (hd : decode cd pc = .ok (.ifCond .ge off, 3)) (hp : pc + 3 = pc') (ht : (pc : Int) + off = (tgt : Int)) (kt : 0 ≤ a → jx_J E l cd nL ret own ini Rm mc ms Q cells slots n kd R I tgt lv st) (kf : a < 0 → jx_J E l cd nL ret own ini Rm mc ms Q cells slots n kd R I pc' lv st) : jx_J E l cd nL ret own ini Rm mc ms Q cells slots n kd R I pc lv (.int x :: st) := by
  subst hx
  exact j_if_geN ha hd hp ht kt kf
theorem j_icmp_gtN'  {x y : Int32} {a b : Nat} (hx : x = nI a) (hy : y = nI b) {off : Int} {tgt : Nat} (ha : a < 2147483648) (hb : b < 2147483648) (hd : decode cd pc = .ok (.if_icmp .gt off, 3)) (hp : pc + 3 = pc') (ht : (pc : Int) + off = (tgt : Int)) (kt : b < a → jx_J E l cd nL ret own ini Rm mc ms Q cells slots n kd R I tgt lv st) (kf : a ≤ b → jx_J E l cd nL ret own ini Rm mc ms Q cells slots n kd R I pc' lv st) : jx_J E l cd nL ret own ini Rm mc ms Q cells slots n kd R I pc lv (.int y :: .int x :: st) := by
  subst hx; subst hy
  exact j_icmp_gtN ha hb hd hp ht kt kf
theorem j_if_gtN' {x : Int32} {a : Nat} (hx : x = nI a) {off : Int} {tgt : Nat} (ha : a < 2147483648) (hd : decode cd pc = .ok (.ifCond .gt off, 3)) (hp : pc + 3 = pc') (ht : (pc : Int) + off = (tgt : Int)) (kt : 0 < a → jx_J E l cd nL ret own ini Rm mc ms Q cells slots n kd R I tgt lv st) (kf : a ≤ 0 → jx_J E l cd nL ret own ini Rm mc ms Q cells slots n kd R I pc' lv st) : jx_J E l cd nL ret own ini Rm mc ms Q cells slots n kd R I pc lv (.int x :: st) := by
  subst hx
  exact j_if_gtN ha hd hp ht kt kf
theorem j_icmp_leN'  {x y : Int32} {a b : Nat} (hx : x = nI a) (hy : y = nI b) {off : Int} {tgt : Nat} (ha : a < 2147483648) (hb : b < 2147483648) (hd : decode cd pc = .ok (.if_icmp .le off, 3)) (hp : pc + 3 = pc') (ht : (pc : Int) + off = (tgt : Int)) (kt : a ≤ b → jx_J E l cd nL ret own ini Rm mc ms Q cells slots n kd R I tgt lv st) (kf : b < a → jx_J E l cd nL ret own ini Rm mc ms Q cells slots n kd R I pc' lv st) : jx_J E l cd nL ret own ini Rm mc ms Q cells slots n kd R I pc lv (.int y :: .int x :: st) := by
  subst hx; subst hy
  exact j_icmp_leN ha hb hd hp ht kt kf
theorem j_if_leN' {x : Int32} {a : Nat} (hx : x = nI a) {off : Int} {tgt : Nat} (ha : a < 2147483648) (hd : decode cd pc = .ok (.ifCond .le off, 3)) (hp : pc + 3 = pc') (ht : (pc : Int) + off = (tgt : Int)) (kt : a ≤ 0 → jx_J E l cd nL ret own ini Rm mc ms Q cells slots n kd R I tgt lv st) (kf : 0 < a → jx_J E l cd nL ret own ini Rm mc ms Q cells slots n kd R I pc' lv st) : jx_J E l cd nL ret own ini Rm mc ms Q cells slots n kd R I pc lv (.int x :: st) := by
  subst hx
  exact j_if_leN ha hd hp ht kt kf
theorem j_if_eqB' {x : Int32} {b : Bool} (hx : x = bi b) {off : Int} {tgt : Nat} (hd : decode cd pc = .ok (.ifCond .eq off, 3)) (hp : pc + 3 = pc') (ht : (pc : Int) + off = (tgt : Int)) (kt : b = false → jx_J E l cd nL ret own ini Rm mc ms Q cells slots n kd R I tgt lv st) (kf : b = true → jx_J E l cd nL ret own ini Rm mc ms Q cells slots n kd R I pc' lv st) : jx_J E l cd nL ret own ini Rm mc ms Q cells slots n kd R I pc lv (.int x :: st) := by
  subst hx
  exact j_if_eqB hd hp ht kt kf
theorem j_if_neB' {x : Int32} {b : Bool} (hx : x = bi b) {off : Int} {tgt : Nat} (hd : decode cd pc = .ok (.ifCond .ne off, 3)) (hp : pc + 3 = pc') (ht : (pc : Int) + off = (tgt : Int)) (kt : b = true → jx_J E l cd nL ret own ini Rm mc ms Q cells slots n kd R I tgt lv st) (kf : b = false → jx_J E l cd nL ret own ini Rm mc ms Q cells slots n kd R I pc' lv st) : jx_J E l cd nL ret own ini Rm mc ms Q cells slots n kd R I pc lv (.int x :: st) := by
  subst hx
  exact j_if_neB hd hp ht kt kf
end JR
