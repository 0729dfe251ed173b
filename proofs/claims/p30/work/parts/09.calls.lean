theorem jx_good {w : Cond} (h : w ∈ jx_W) : (w.onTables && w.keeps) = true ∨ ∃ ty, w = .arrayClass ty := good_of_word (List.mem_filter.mp h).2
theorem jx_goodIn {w : Cond} (h : w ∈ jx_W) : GoodIn jx_W (w :: jx_W) := by
  intro v hv
  rcases List.mem_cons.mp hv with e | e
  · rw [e]; exact ⟨h, jx_good h⟩
  · exact ⟨e, jx_good e⟩
/-- a call's words: what the calling class links, what the callee is -/
def jx_pd (y : MethodName) (k : Nat) : Prop := y.cls ≠ "java/lang/invoke/MethodHandle" ∧ y.cls ≠ "java/lang/invoke/VarHandle" ∧ (parseMethodDescriptor y.desc).map (fun d => d.parameters.length) = some k
def jx_mV (own : String) (ix : Nat) (C : String) (y : MethodName) (cd : ByteArray) (nL : Nat) (ret : Option FieldType) (k : Nat) : Prop :=
  Cond.methodLink own ix y ∈ jx_W ∧ Cond.instanceMethod y ∈ jx_W ∧ Cond.selects C y y ∈ jx_W ∧ Cond.initialized y.cls ∈ jx_W ∧ Cond.code y cd nL ret ∈ jx_W ∧ jx_pd y k
def jx_mS (own : String) (ix : Nat) (y : MethodName) (cd : ByteArray) (nL : Nat) (ret : Option FieldType) (k : Nat) : Prop :=
  Cond.methodLink own ix y ∈ jx_W ∧ Cond.static y ∈ jx_W ∧ Cond.initialized y.cls ∈ jx_W ∧ Cond.code y cd nL ret ∈ jx_W ∧ jx_pd y k
def jx_mI (own : String) (ix : Nat) (y : MethodName) (cd : ByteArray) (nL : Nat) (k : Nat) : Prop :=
  Cond.methodLink own ix y ∈ jx_W ∧ Cond.instanceMethod y ∈ jx_W ∧ Cond.initialized y.cls ∈ jx_W ∧ Cond.code y cd nL none ∈ jx_W ∧ y.name = "<init>" ∧ jx_pd y k
def jx_mSN (own : String) (ix : Nat) (y : MethodName) (cd : ByteArray) (nL : Nat) (ret : Option FieldType) (k : Nat) : Prop :=
  (own, ix, y, RX5) ∈ jx_nm ∧ Cond.static y ∈ jx_W ∧ Cond.initialized y.cls ∈ jx_W ∧ Cond.code y cd nL ret ∈ jx_W ∧ jx_pd y k
def jx_mIN (own : String) (ix : Nat) (y : MethodName) (cd : ByteArray) (nL : Nat) (k : Nat) : Prop :=
  (own, ix, y, RX5) ∈ jx_nm ∧ Cond.instanceMethod y ∈ jx_W ∧ Cond.initialized y.cls ∈ jx_W ∧ Cond.code y cd nL none ∈ jx_W ∧ y.name = "<init>" ∧ jx_pd y k
theorem jx_blind {E : jx_E} {n : Nat} {kd : jx_K} {R : jx_R} {I : jx_I} {as : List Value} : FrameBlind (va_Pc as (fun U => jx_En E U U.heap ∧ U.heap.size = E.2.2.1 + n ∧ jx_Wd E n kd R I U.heap)) := by
  intro a U g mk h
  obtain ⟨e, h1, h2, h3⟩ := h
  exact ⟨e, jx_En.next (U := U.calling g mk a) h1 va_S.rf rfl (State.WarmedH.refl U), h2, h3⟩
theorem jx_after {E : jx_E} {l : Launch} {Rm : Room} {cells slots n mc1 ms1 : Nat} {p : Program} {e : Env} {s : State} {m : MethodId} {args : Array Value} {below : List Frame} {meth : Method} {c : Code} {H : Heap} {locs : List Loc} {Z : State → Prop} {pc : Nat} {ls : Array Slot} {st0 rest : List Value} {a : Array Value} {Q1 : jx_Q}
    (hr : va_Run p l e Rm s m args below meth c H locs cells slots mc1 ms1 (F0 m pc ls st0) rest (jx_Qc E mc1 Q1 a) (jx_A E)) (hz : H.size = E.2.2.1 + n) (hS : va_S (jx_A E) s.heap H locs)
    (kk : ∀ (v : Option Value) (n1 : Nat) (kd1 : jx_K) (R1 : jx_R) (I1 : jx_I) (H1 : Heap) (locs1 : List Loc), Q1 v n1 kd1 R1 I1 → n1 = n + mc1 → jx_Wd E n1 kd1 R1 I1 H1 → va_S (jx_A E) s.heap H1 locs1 → W p l e Rm s m args below meth c H1 locs1 (cells + mc1) (slots + ms1) Z (F0 m (pc + 3) ls (v.toList ++ rest))) : W p l e Rm s m args below meth c H locs cells slots Z (F0 m pc ls st0) := by
  intro T hT X
  obtain ⟨v, st₀, t, T', L, h0, X', hL, e1, e2, ⟨⟨v', n1, kd1, R1, I1, hv, hQ, hn1, hW1⟩, hq, hk⟩, st⟩ := hr T hT X
  cases hv
  rw [h0] at hq hk hn1
  obtain ⟨t2, a1, b1⟩ := kk v n1 kd1 R1 I1 T'.heap (locs ++ L) hQ (by omega) (by rw [e1]; exact hW1)
    ⟨Nat.le_trans hS.1 (by rw [e1]; exact hq), fun q h1 h2 => by rw [e1, hk q (Nat.lt_of_lt_of_le h1 hS.1) h2]; exact hS.2.1 q h1 h2, fun q hq => by
      rcases List.mem_append.mp hq with h | h
      · exact hS.2.2 q h
      · exact hL q h⟩ T' rfl X'
  exact ⟨t2, st t2 a1, b1⟩
section JR
variable {E : jx_E} {l : Launch} {cd : ByteArray} {nL : Nat} {ret : Option FieldType} {own : String} {ini : Bool} {Rm : Room} {mc ms : Nat} {Q : jx_Q} {cells slots n : Nat} {kd : jx_K} {R : jx_R} {I : jx_I} {pc pc' : Nat} {lv : List (Option Value)} {st : List Value}
variable {y : MethodName} {cd1 : ByteArray} {nL1 ix k1 d1 mc1 ms1 : Nat} {ret1 : Option FieldType} {As rest : List Value} {Q1 : jx_Q}
theorem j_callV {C : String} {T : u_T} {b ci mm N : Nat} (hm : jx_mV own ix C y cd1 nL1 ret1 k1) (hC : jx_Ct E l y cd1 nL1 ret1 d1 mc1 ms1 n kd R I (.ref b :: As) Q1) (hk : kd b = (ci, mm)) (hc7 : ci < 7) (hc : vwCl[ci]? = some (C, T, N)) (hs : As.reverse ++ .ref b :: rest = st) (hl1 : As.length = k1) (hR : d1 + 1 ≤ Rm.frames ∧ 8 + (nL1 + 11) + 32 * d1 ≤ Rm.locals) (hf : cells + mc1 ≤ Rm.cells ∧ slots + ms1 ≤ Rm.slots) (hcat : (rest.map fun v => v.category).sum ≤ 8) (hd : decode cd pc = .ok (.invokevirtual ix, 3)) (hp : pc + 3 = pc') (k : ∀ (v : Option Value) (n1 : Nat) (kd1 : jx_K) (R1 : jx_R) (I1 : jx_I), Q1 v n1 kd1 R1 I1 → n1 = n + mc1 → jx_J E l cd nL ret own ini Rm mc ms Q (cells + mc1) (slots + ms1) n1 kd1 R1 I1 pc' lv (v.toList ++ rest)) : jx_J E l cd nL ret own ini Rm mc ms Q cells slots n kd R I pc lv st := by
  obtain ⟨w1, w2, w3, w4, w5, w6⟩ := hm
  subst hp; subst hs
  intro p e s m args below meth c Z X hZ H locs ls hN hW hS hl
  intro T0 hT XS
  have hz := jx_size XS hT X.2.2.2.2.2.2.2.2.2 hN hW
  refine (show W p l e Rm s m args below meth c H locs cells slots Z (F0 m pc ls _) from ?_) T0 hT XS
  obtain ⟨q0, hq0⟩ := jx_at hW (a := b) (by rw [hk]; show ci ≤ 10; omega)
  rw [jx_pf_obj hc7 hk] at hq0
  refine jx_after (va_runV (Ts := jx_W) (As := As) (rest := rest) ⟨X.1, X.2.1, X.2.2.2.2.1, X.2.2.2.2.2.1, X.2.2.2.2.2.2.2.1⟩ hC ⟨callB_of k1 (X.2.2.2.2.2.2.2.1) (jx_goodIn w5) rfl rfl rfl (X.2.2.2.2.2.2.2.1 _ w4) (X.2.2.2.2.2.2.2.1 _ w1) w6 hR, X.2.2.2.2.2.2.2.1 _ w2, X.2.2.2.2.2.2.2.1 _ w3⟩ ⟨jx_blind, va_recv X.2.2.2.2.2.2.2.2.1.1 hW.2 hc hq0, fun U hU hWm => ⟨rfl, X.2.2.2.2.2.2.2.2.1.next hS hU hWm, by rw [hU]; exact hz, by rw [hU]; exact hW⟩⟩ rfl hl1 (hl.1.trans rfl) rfl (lv_room hcat) hd hf) hz hS (fun v n1 kd1 R1 I1 H1 locs1 hQ hn hW1 hS1 => ?_)
  exact k v n1 kd1 R1 I1 hQ hn p e s m args below meth c Z X hZ H1 locs1 ls (by omega) hW1 hS1 hl
theorem j_callS (hm : jx_mS own ix y cd1 nL1 ret1 k1) (hC : jx_Ct E l y cd1 nL1 ret1 d1 mc1 ms1 n kd R I As Q1) (hs : As.reverse ++ rest = st) (hl1 : As.length = k1) (hR : d1 + 1 ≤ Rm.frames ∧ 8 + (nL1 + 11) + 32 * d1 ≤ Rm.locals) (hf : cells + mc1 ≤ Rm.cells ∧ slots + ms1 ≤ Rm.slots) (hcat : (rest.map fun v => v.category).sum ≤ 8) (hd : decode cd pc = .ok (.invokestatic ix, 3)) (hp : pc + 3 = pc') (k : ∀ (v : Option Value) (n1 : Nat) (kd1 : jx_K) (R1 : jx_R) (I1 : jx_I), Q1 v n1 kd1 R1 I1 → n1 = n + mc1 → jx_J E l cd nL ret own ini Rm mc ms Q (cells + mc1) (slots + ms1) n1 kd1 R1 I1 pc' lv (v.toList ++ rest)) : jx_J E l cd nL ret own ini Rm mc ms Q cells slots n kd R I pc lv st := by
  obtain ⟨w1, w2, w4, w5, w6⟩ := hm
  subst hp; subst hs
  intro p e s m args below meth c Z X hZ H locs ls hN hW hS hl
  intro T0 hT XS
  have hz := jx_size XS hT X.2.2.2.2.2.2.2.2.2 hN hW
  refine (show W p l e Rm s m args below meth c H locs cells slots Z (F0 m pc ls _) from ?_) T0 hT XS
  refine jx_after (va_runS (Ts := jx_W) (As := As) (rest := rest) ⟨X.1, X.2.1, X.2.2.2.2.1, X.2.2.2.2.2.1, X.2.2.2.2.2.2.2.1⟩ hC ⟨callB_of k1 (X.2.2.2.2.2.2.2.1) (jx_goodIn w5) rfl rfl rfl (X.2.2.2.2.2.2.2.1 _ w4) (X.2.2.2.2.2.2.2.1 _ w1) w6 hR, X.2.2.2.2.2.2.2.1 _ w2⟩ ⟨jx_blind, fun U hU hWm => ⟨rfl, X.2.2.2.2.2.2.2.2.1.next hS hU hWm, by rw [hU]; exact hz, by rw [hU]; exact hW⟩⟩ rfl hl1 (hl.1.trans rfl) rfl (lv_room hcat) hd hf) hz hS (fun v n1 kd1 R1 I1 H1 locs1 hQ hn hW1 hS1 => ?_)
  exact k v n1 kd1 R1 I1 hQ hn p e s m args below meth c Z X hZ H1 locs1 ls (by omega) hW1 hS1 hl
theorem j_callI {b : Nat} (hm : jx_mI own ix y cd1 nL1 k1) (hC : jx_Ct E l y cd1 nL1 none d1 mc1 ms1 n kd R I (.ref b :: As) Q1) (hs : As.reverse ++ .ref b :: rest = st) (hl1 : As.length = k1) (hR : d1 + 1 ≤ Rm.frames ∧ 8 + (nL1 + 11) + 32 * d1 ≤ Rm.locals) (hf : cells + mc1 ≤ Rm.cells ∧ slots + ms1 ≤ Rm.slots) (hcat : (rest.map fun v => v.category).sum ≤ 8) (hd : decode cd pc = .ok (.invokespecial ix, 3)) (hp : pc + 3 = pc') (k : ∀ (v : Option Value) (n1 : Nat) (kd1 : jx_K) (R1 : jx_R) (I1 : jx_I), Q1 v n1 kd1 R1 I1 → n1 = n + mc1 → jx_J E l cd nL ret own ini Rm mc ms Q (cells + mc1) (slots + ms1) n1 kd1 R1 I1 pc' lv (v.toList ++ rest)) : jx_J E l cd nL ret own ini Rm mc ms Q cells slots n kd R I pc lv st := by
  obtain ⟨w1, w2, w4, w5, w7, w6⟩ := hm
  subst hp; subst hs
  intro p e s m args below meth c Z X hZ H locs ls hN hW hS hl
  intro T0 hT XS
  have hz := jx_size XS hT X.2.2.2.2.2.2.2.2.2 hN hW
  refine (show W p l e Rm s m args below meth c H locs cells slots Z (F0 m pc ls _) from ?_) T0 hT XS
  refine jx_after (va_runI (Ts := jx_W) (As := As) (rest := rest) ⟨X.1, X.2.1, X.2.2.2.2.1, X.2.2.2.2.2.1, X.2.2.2.2.2.2.2.1⟩ hC ⟨callB_of k1 (X.2.2.2.2.2.2.2.1) (jx_goodIn w5) rfl rfl rfl (X.2.2.2.2.2.2.2.1 _ w4) (X.2.2.2.2.2.2.2.1 _ w1) w6 hR, w7, X.2.2.2.2.2.2.2.1 _ w2⟩ ⟨jx_blind, fun U hU hWm => ⟨rfl, X.2.2.2.2.2.2.2.2.1.next hS hU hWm, by rw [hU]; exact hz, by rw [hU]; exact hW⟩⟩ rfl hl1 (hl.1.trans rfl) rfl (lv_room hcat) hd hf) hz hS (fun v n1 kd1 R1 I1 H1 locs1 hQ hn hW1 hS1 => ?_)
  exact k v n1 kd1 R1 I1 hQ hn p e s m args below meth c Z X hZ H1 locs1 ls (by omega) hW1 hS1 hl
theorem j_callSN (hm : jx_mSN own ix y cd1 nL1 ret1 k1) (hC : jx_Ct E l y cd1 nL1 ret1 d1 mc1 ms1 n kd R I As Q1) (hs : As.reverse ++ rest = st) (hl1 : As.length = k1) (hR : d1 + 1 ≤ Rm.frames ∧ 8 + (nL1 + 11) + 32 * d1 ≤ Rm.locals) (hf : cells + mc1 ≤ Rm.cells ∧ slots + ms1 ≤ Rm.slots) (hcat : (rest.map fun v => v.category).sum ≤ 8) (hd : decode cd pc = .ok (.invokestatic ix, 3)) (hp : pc + 3 = pc') (k : ∀ (v : Option Value) (n1 : Nat) (kd1 : jx_K) (R1 : jx_R) (I1 : jx_I), Q1 v n1 kd1 R1 I1 → n1 = n + mc1 → jx_J E l cd nL ret own ini Rm mc ms Q (cells + mc1) (slots + ms1) n1 kd1 R1 I1 pc' lv (v.toList ++ rest)) : jx_J E l cd nL ret own ini Rm mc ms Q cells slots n kd R I pc lv st := by
  obtain ⟨w1, w2, w4, w5, w6⟩ := hm
  subst hp; subst hs
  intro p e s m args below meth c Z X hZ H locs ls hN hW hS hl
  intro T0 hT XS
  have hz := jx_size XS hT X.2.2.2.2.2.2.2.2.2 hN hW
  refine (show W p l e Rm s m args below meth c H locs cells slots Z (F0 m pc ls _) from ?_) T0 hT XS
  refine jx_after (va_runSN (Ts := jx_W) (As := As) (rest := rest) ⟨X.1, X.2.1, X.2.2.2.2.1, X.2.2.2.2.2.1, X.2.2.2.2.2.2.2.1⟩ hC ⟨va_cnB k1 (X.2.2.2.2.2.2.2.1) (jx_goodIn w5) rfl rfl rfl (X.2.2.2.2.2.2.2.2.1.2.2.2.2.2.2.2.1 _ w1) (X.2.2.2.2.2.2.2.1 _ w4) w6 hR, X.2.2.2.2.2.2.2.1 _ w2, trivial⟩ ⟨jx_blind, fun U hU hWm => ⟨rfl, X.2.2.2.2.2.2.2.2.1.next hS hU hWm, by rw [hU]; exact hz, by rw [hU]; exact hW⟩⟩ rfl hl1 (hl.1.trans rfl) rfl (lv_room hcat) hd hf) hz hS (fun v n1 kd1 R1 I1 H1 locs1 hQ hn hW1 hS1 => ?_)
  exact k v n1 kd1 R1 I1 hQ hn p e s m args below meth c Z X hZ H1 locs1 ls (by omega) hW1 hS1 hl
theorem j_callIN {b : Nat} (hm : jx_mIN own ix y cd1 nL1 k1) (hC : jx_Ct E l y cd1 nL1 none d1 mc1 ms1 n kd R I (.ref b :: As) Q1) (hs : As.reverse ++ .ref b :: rest = st) (hl1 : As.length = k1) (hR : d1 + 1 ≤ Rm.frames ∧ 8 + (nL1 + 11) + 32 * d1 ≤ Rm.locals) (hf : cells + mc1 ≤ Rm.cells ∧ slots + ms1 ≤ Rm.slots) (hcat : (rest.map fun v => v.category).sum ≤ 8) (hd : decode cd pc = .ok (.invokespecial ix, 3)) (hp : pc + 3 = pc') (k : ∀ (v : Option Value) (n1 : Nat) (kd1 : jx_K) (R1 : jx_R) (I1 : jx_I), Q1 v n1 kd1 R1 I1 → n1 = n + mc1 → jx_J E l cd nL ret own ini Rm mc ms Q (cells + mc1) (slots + ms1) n1 kd1 R1 I1 pc' lv (v.toList ++ rest)) : jx_J E l cd nL ret own ini Rm mc ms Q cells slots n kd R I pc lv st := by
  obtain ⟨w1, w2, w4, w5, w7, w6⟩ := hm
  subst hp; subst hs
  intro p e s m args below meth c Z X hZ H locs ls hN hW hS hl
  intro T0 hT XS
  have hz := jx_size XS hT X.2.2.2.2.2.2.2.2.2 hN hW
  refine (show W p l e Rm s m args below meth c H locs cells slots Z (F0 m pc ls _) from ?_) T0 hT XS
  refine jx_after (va_runIN (Ts := jx_W) (As := As) (rest := rest) ⟨X.1, X.2.1, X.2.2.2.2.1, X.2.2.2.2.2.1, X.2.2.2.2.2.2.2.1⟩ hC ⟨va_cnB k1 (X.2.2.2.2.2.2.2.1) (jx_goodIn w5) rfl rfl rfl (X.2.2.2.2.2.2.2.2.1.2.2.2.2.2.2.2.1 _ w1) (X.2.2.2.2.2.2.2.1 _ w4) w6 hR, w7, X.2.2.2.2.2.2.2.1 _ w2⟩ ⟨jx_blind, fun U hU hWm => ⟨rfl, X.2.2.2.2.2.2.2.2.1.next hS hU hWm, by rw [hU]; exact hz, by rw [hU]; exact hW⟩⟩ rfl hl1 (hl.1.trans rfl) rfl (lv_room hcat) hd hf) hz hS (fun v n1 kd1 R1 I1 H1 locs1 hQ hn hW1 hS1 => ?_)
  exact k v n1 kd1 R1 I1 hQ hn p e s m args below meth c Z X hZ H1 locs1 ls (by omega) hW1 hS1 hl
theorem j_min {x y : Int32} (hl1 : Cond.methodLink own ix Lib.Math.min.name ∈ jx_W) (hl2 : Cond.static Lib.Math.min.name ∈ jx_W) (hl3 : Cond.initialized "java/lang/Math" ∈ jx_W) (hl4 : Cond.code Lib.Math.min.name Lib.Math.min.code 2 (some .int) ∈ jx_W) (hfr : 1 ≤ Rm.frames) (hlo : (st.map fun v => v.category).sum + 13 ≤ Rm.locals) (hf : cells ≤ Rm.cells ∧ slots ≤ Rm.slots) (hd : decode cd pc = .ok (.invokestatic ix, 3)) (hp : pc + 3 = pc') (k : jx_J E l cd nL ret own ini Rm mc ms Q cells slots n kd R I pc' lv (.int (if y < x then y else x) :: st)) : jx_J E l cd nL ret own ini Rm mc ms Q cells slots n kd R I pc lv (.int y :: .int x :: st) := by
  subst hp
  intro p e s m args below meth c Z X hZ H locs ls hN hW hS hl
  exact va_mmin X.1 X.2.1 (X.2.2.2.2.1.trans hl.1.symm) X.2.2.2.2.2.1 (X.2.2.2.2.2.2.2.1 _ hl1) (X.2.2.2.2.2.2.2.1 _ hl2) (X.2.2.2.2.2.2.2.1 _ hl3) (X.2.2.2.2.2.2.2.1 _ hl4) hfr hlo hf.1 hf.2 hd (k p e s m args below meth c Z X hZ H locs ls hN hW hS hl)
theorem j_copyI {a b ma mb sp dp nn : Nat} (hl1 : Cond.methodLink own ix arraycopyName ∈ jx_W) (hl2 : Cond.native arraycopyName ∈ jx_W) (hl3 : Cond.static arraycopyName ∈ jx_W) (hl4 : Cond.initialized "java/lang/System" ∈ jx_W) (hka : kd a = (7, ma)) (hkb : kd b = (7, mb)) (hm : ma < 2147483648) (hm2 : mb < 2147483648) (h4 : sp + nn ≤ ma) (h5 : dp + nn ≤ mb) (hfr : 1 ≤ Rm.frames) (hlo : (st.map fun v => v.category).sum + (nativeFrameWords "java/lang/System" "arraycopy" 5 + 11) ≤ Rm.locals) (hd : decode cd pc = .ok (.invokestatic ix, 3)) (hp : pc + 3 = pc')
    (k : jx_J E l cd nL ret own ini Rm mc ms Q cells slots n kd R (va_up I b (va_cpy (I a) (I b) sp dp nn)) pc' lv st) : jx_J E l cd nL ret own ini Rm mc ms Q cells slots n kd R I pc lv (.int (nI nn) :: .int (nI dp) :: .ref b :: .int (nI sp) :: .ref a :: st) := by
  subst hp
  intro p e s m args below meth c Z X hZ H locs ls hN hW hS hl
  obtain ⟨q0, hq0⟩ := jx_at hW (a := a) (by rw [hka]; show 7 ≤ 10; omega)
  obtain ⟨q1, hq1⟩ := jx_at hW (a := b) (by rw [hkb]; show 7 ≤ 10; omega)
  have hq2 := hq1
  rw [jx_pf_arrI hka] at hq0
  rw [jx_pf_arrI hkb] at hq1
  refine va_copyi X.1 X.2.1 (X.2.2.2.2.1.trans hl.1.symm) X.2.2.2.2.2.1 (X.2.2.2.2.2.2.2.1 _ hl1) (X.2.2.2.2.2.2.2.1 _ hl2) (X.2.2.2.2.2.2.2.1 _ hl3) (X.2.2.2.2.2.2.2.1 _ hl4) X.2.2.2.2.2.2.2.2.1.1 hW.2 (jx_D E n _) hS q0 q1 0 0 hq0 hq1 rfl rfl rfl (nI_pos (by omega)) (nI_pos (by omega)) (nI_pos (by omega)) (by rw [nI_clamp (by omega), nI_clamp (by omega)]; exact h4) (by rw [nI_clamp (by omega), nI_clamp (by omega)]; exact h5) (fun i _ => rfl) hfr hlo hd (fun H1 locs1 hP1 _ hS1 => ?_)
  refine k p e s m args below meth c Z X hZ H1 locs1 ls hN ?_ hS1 hl
  rw [nI_clamp (by omega), nI_clamp (by omega), nI_clamp (by omega)] at hP1
  refine jx_Wd_set hW (by rw [hkb]; show 7 ≤ 10; omega) hq2 hP1 (fun x => ?_)
  by_cases hx : x = b
  · subst hx
    simp [va_up, jx_pf, jx_cell, hkb]
  · simp [va_up, jx_pf, hx]
theorem j_gsLeast (how : own = RX4) (hd : decode cd pc = .ok (.getstatic 73, 3)) (hp : pc + 3 = pc') (k : jx_J E l cd nL ret own ini Rm mc ms Q cells slots n kd R I pc' lv (.ref (E.2.2.2.1 10) :: st)) : jx_J E l cd nL ret own ini Rm mc ms Q cells slots n kd R I pc lv st := by
  subst hp; subst how
  intro p e s m args below meth c Z X hZ H locs ls hN hW hS hl
  have hE := X.2.2.2.2.2.2.2.2.1
  exact va_getsN (C := RX5) X.1 X.2.1 hE.2.2.2.1.1 hS X.2.2.2.2.2.1 (va_Nw.use rfl hE.2.2.2.2.2.2.2.2.1.1) (fun _ h => h) hd (k p e s m args below meth c Z X hZ H locs ls hN hW hS hl)
theorem j_gsMost (how : own = RX4) (hd : decode cd pc = .ok (.getstatic 77, 3)) (hp : pc + 3 = pc') (k : jx_J E l cd nL ret own ini Rm mc ms Q cells slots n kd R I pc' lv (.ref (E.2.2.2.1 11) :: st)) : jx_J E l cd nL ret own ini Rm mc ms Q cells slots n kd R I pc lv st := by
  subst hp; subst how
  intro p e s m args below meth c Z X hZ H locs ls hN hW hS hl
  have hE := X.2.2.2.2.2.2.2.2.1
  exact va_getsN (C := RX5) X.1 X.2.1 hE.2.2.2.2.1.1 hS X.2.2.2.2.2.1 (va_Nw.use rfl hE.2.2.2.2.2.2.2.2.1.2) (fun _ h => h) hd (k p e s m args below meth c Z X hZ H locs ls hN hW hS hl)
theorem j_tLeast {i : Int32} {j : Nat} (hi : i = nI j) (hj : j < 7) (hd : decode cd pc = .ok (.iaload, 1)) (hp : pc + 1 = pc') (k : jx_J E l cd nL ret own ini Rm mc ms Q cells slots n kd R I pc' lv (.int (jx_least j) :: st)) : jx_J E l cd nL ret own ini Rm mc ms Q cells slots n kd R I pc lv (.int i :: .ref (E.2.2.2.1 10) :: st) := by
  subst hp; subst hi
  intro p e s m args below meth c Z X hZ H locs ls hN hW hS hl
  have hE := X.2.2.2.2.2.2.2.2.1
  exact va_ti X.1 X.2.1 hE.2.2.2.1.2 hS (vp_in_nI hj (by omega)) (by rw [nI_clamp (by omega)]) hd (k p e s m args below meth c Z X hZ H locs ls hN hW hS hl)
theorem j_tMost {i : Int32} {j : Nat} (hi : i = nI j) (hj : j < 7) (hd : decode cd pc = .ok (.iaload, 1)) (hp : pc + 1 = pc') (k : jx_J E l cd nL ret own ini Rm mc ms Q cells slots n kd R I pc' lv (.int (jx_most j) :: st)) : jx_J E l cd nL ret own ini Rm mc ms Q cells slots n kd R I pc lv (.int i :: .ref (E.2.2.2.1 11) :: st) := by
  subst hp; subst hi
  intro p e s m args below meth c Z X hZ H locs ls hN hW hS hl
  have hE := X.2.2.2.2.2.2.2.2.1
  exact va_ti X.1 X.2.1 hE.2.2.2.2.1.2 hS (vp_in_nI hj (by omega)) (by rw [nI_clamp (by omega)]) hd (k p e s m args below meth c Z X hZ H locs ls hN hW hS hl)
end JR
