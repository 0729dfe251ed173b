/-! ===== locals by their places ===== -/
def jx_asc : List (Option Value) → Nat → List (Nat × Value)
  | [], _ => []
  | none :: r, i => jx_asc r (i + 1)
  | some v :: r, i => (i, v) :: jx_asc r (i + 1)
theorem jx_asc_mem : ∀ (lv : List (Option Value)) (j : Nat) (q : Nat × Value), q ∈ jx_asc lv j ↔ ∃ k, q.1 = j + k ∧ lv[k]? = some (some q.2) := by
  intro lv
  induction lv with
  | nil => intro j q; simp [jx_asc]
  | cons o r ih =>
    intro j q
    cases o with
    | none =>
      simp only [jx_asc, ih]
      constructor
      · rintro ⟨k, h1, h2⟩
        exact ⟨k + 1, by omega, by simpa using h2⟩
      · rintro ⟨k, h1, h2⟩
        cases k with
        | zero => simp at h2
        | succ k => exact ⟨k, by omega, by simpa using h2⟩
    | some v =>
      simp only [jx_asc, List.mem_cons, ih]
      constructor
      · rintro (h | ⟨k, h1, h2⟩)
        · exact ⟨0, by rw [h]; rfl, by rw [h]; rfl⟩
        · exact ⟨k + 1, by omega, by simpa using h2⟩
      · rintro ⟨k, h1, h2⟩
        cases k with
        | zero =>
          simp at h2
          exact Or.inl (Prod.ext h1 h2.symm)
        | succ k => exact Or.inr ⟨k, by omega, by simpa using h2⟩
def jx_L (ls : Array Slot) (nL : Nat) (lv : List (Option Value)) : Prop := lv_has ls nL (jx_asc lv 0)
theorem jx_Lat {ls : Array Slot} {nL : Nat} {lv : List (Option Value)} (h : jx_L ls nL lv) {i : Nat} {v : Value} (hi : lv[i]? = some (some v)) : ls[i]? = some (.val v) :=
  h.2.2 (i, v) ((jx_asc_mem lv 0 (i, v)).mpr ⟨i, by simp, hi⟩)
def jx_k2 : Option Value → Option Value
  | some (.long _) => none
  | some (.double _) => none
  | o => o
def jx_st1 : List (Option Value) → Nat → Value → List (Option Value)
  | [], _, _ => []
  | _ :: r, 0, v => some v :: r
  | o :: r, 1, v => jx_k2 o :: jx_st1 r 0 v
  | o :: r, i + 2, v => o :: jx_st1 r (i + 1) v
def jx_st2 : List (Option Value) → Nat → Value → List (Option Value)
  | [], _, _ => []
  | _ :: [], 0, v => [some v]
  | _ :: _ :: r, 0, v => some v :: none :: r
  | o :: r, 1, v => jx_k2 o :: jx_st2 r 0 v
  | o :: r, i + 2, v => o :: jx_st2 r (i + 1) v
theorem jx_k2_spec {o : Option Value} {w : Value} (h : jx_k2 o = some w) : o = some w ∧ ¬ w.category = 2 := by
  cases o with
  | none => simp [jx_k2] at h
  | some z => cases z <;> simp [jx_k2] at h <;> subst h <;> simp [Value.category]
theorem jx_st1_get : ∀ (lv : List (Option Value)) (i : Nat) (v : Value) (k : Nat) (w : Value), (jx_st1 lv i v)[k]? = some (some w) → (k = i ∧ w = v) ∨ (k ≠ i ∧ lv[k]? = some (some w) ∧ ¬ (k + 1 = i ∧ w.category = 2)) := by
  intro lv
  induction lv with
  | nil => intro i v k w h; simp [jx_st1] at h
  | cons o r ih =>
    intro i v k w h
    match i, k with
    | 0, 0 => simp [jx_st1] at h; exact Or.inl ⟨rfl, h.symm⟩
    | 0, k + 1 => simp [jx_st1] at h; exact Or.inr ⟨by omega, by simpa using h, by omega⟩
    | 1, 0 =>
      simp [jx_st1] at h
      obtain ⟨h1, h2⟩ := jx_k2_spec h
      exact Or.inr ⟨by omega, by simp [h1], fun q => h2 q.2⟩
    | 1, k + 1 =>
      simp [jx_st1] at h
      rcases ih 0 v k w h with ⟨h1, h2⟩ | ⟨h1, h2, h3⟩
      · exact Or.inl ⟨by omega, h2⟩
      · exact Or.inr ⟨by omega, by simpa using h2, by omega⟩
    | i + 2, 0 =>
      simp [jx_st1] at h
      exact Or.inr ⟨by omega, by simp [h], by omega⟩
    | i + 2, k + 1 =>
      simp [jx_st1] at h
      rcases ih (i + 1) v k w h with ⟨h1, h2⟩ | ⟨h1, h2, h3⟩
      · exact Or.inl ⟨by omega, h2⟩
      · exact Or.inr ⟨by omega, by simpa using h2, fun q => h3 ⟨by omega, q.2⟩⟩
theorem jx_st2_get : ∀ (lv : List (Option Value)) (i : Nat) (v : Value) (k : Nat) (w : Value), (jx_st2 lv i v)[k]? = some (some w) → (k = i ∧ w = v) ∨ (k ≠ i ∧ k ≠ i + 1 ∧ lv[k]? = some (some w) ∧ ¬ (k + 1 = i ∧ w.category = 2)) := by
  intro lv
  induction lv with
  | nil => intro i v k w h; simp [jx_st2] at h
  | cons o r ih =>
    intro i v k w h
    match i, k with
    | 0, 0 =>
      cases r <;> (simp [jx_st2] at h; exact Or.inl ⟨rfl, h.symm⟩)
    | 0, k + 1 =>
      cases r with
      | nil => simp [jx_st2] at h
      | cons z r =>
        cases k with
        | zero => simp [jx_st2] at h
        | succ k => simp [jx_st2] at h; exact Or.inr ⟨by omega, by omega, by simpa using h, by omega⟩
    | 1, 0 =>
      simp [jx_st2] at h
      obtain ⟨h1, h2⟩ := jx_k2_spec h
      exact Or.inr ⟨by omega, by omega, by simp [h1], fun q => h2 q.2⟩
    | 1, k + 1 =>
      simp [jx_st2] at h
      rcases ih 0 v k w h with ⟨h1, h2⟩ | ⟨h1, h4, h2, h3⟩
      · exact Or.inl ⟨by omega, h2⟩
      · exact Or.inr ⟨by omega, by omega, by simpa using h2, by omega⟩
    | i + 2, 0 =>
      simp [jx_st2] at h
      exact Or.inr ⟨by omega, by omega, by simp [h], by omega⟩
    | i + 2, k + 1 =>
      simp [jx_st2] at h
      rcases ih (i + 1) v k w h with ⟨h1, h2⟩ | ⟨h1, h4, h2, h3⟩
      · exact Or.inl ⟨by omega, h2⟩
      · exact Or.inr ⟨by omega, by omega, by simpa using h2, fun q => h3 ⟨by omega, q.2⟩⟩
theorem jx_Lst1 {ls : Array Slot} {nL i : Nat} {lv : List (Option Value)} {v : Value} (h : lv_has ls nL ((i, v) :: (jx_asc lv 0).filter (fun q => !(q.1 == i) && !(q.1 + 1 == i && q.2.category == 2)))) : jx_L ls nL (jx_st1 lv i v) := by
  refine ⟨h.1, h.2.1, fun q hq => h.2.2 q ?_⟩
  obtain ⟨k, h1, h2⟩ := (jx_asc_mem _ 0 q).mp hq
  rw [Nat.zero_add] at h1
  rcases jx_st1_get lv i v k q.2 h2 with ⟨h3, h4⟩ | ⟨h3, h4, h5⟩
  · exact List.mem_cons.mpr (Or.inl (Prod.ext (h1.trans h3) h4))
  · refine List.mem_cons_of_mem _ (List.mem_filter.mpr ⟨(jx_asc_mem lv 0 q).mpr ⟨k, by omega, h4⟩, ?_⟩)
    rw [h1]
    by_cases hc : q.2.category = 2
    · have : ¬ k + 1 = i := fun z => h5 ⟨z, hc⟩
      simp [h3, hc, this]
    · simp [h3, hc]
theorem jx_Lst2 {ls : Array Slot} {nL i : Nat} {lv : List (Option Value)} {v : Value} (h : lv_has ls nL ((i, v) :: (jx_asc lv 0).filter (fun q => !(q.1 == i) && (!(q.1 == i + 1) && !(q.1 + 1 == i && q.2.category == 2))))) : jx_L ls nL (jx_st2 lv i v) := by
  refine ⟨h.1, h.2.1, fun q hq => h.2.2 q ?_⟩
  obtain ⟨k, h1, h2⟩ := (jx_asc_mem _ 0 q).mp hq
  rw [Nat.zero_add] at h1
  rcases jx_st2_get lv i v k q.2 h2 with ⟨h3, h4⟩ | ⟨h3, h6, h4, h5⟩
  · exact List.mem_cons.mpr (Or.inl (Prod.ext (h1.trans h3) h4))
  · refine List.mem_cons_of_mem _ (List.mem_filter.mpr ⟨(jx_asc_mem lv 0 q).mpr ⟨k, by omega, h4⟩, ?_⟩)
    rw [h1]
    by_cases hc : q.2.category = 2
    · have : ¬ k + 1 = i := fun z => h5 ⟨z, hc⟩
      simp [h3, h6, hc, this]
    · simp [h3, h6, hc]
/-- the locals with which a method begins -/
def jx_args : List Value → List (Option Value)
  | [] => []
  | v :: vs => if v.category = 2 then some v :: none :: jx_args vs else some v :: jx_args vs
theorem jx_args_asc : ∀ (vs : List Value) (j n : Nat), jx_asc (jx_args vs ++ List.replicate n none) j = lv_args j vs := by
  intro vs
  induction vs with
  | nil =>
    intro j n
    induction n generalizing j with
    | zero => rfl
    | succ n ih => simp only [jx_args, List.nil_append, List.replicate_succ, jx_asc]; exact ih (j + 1)
  | cons v vs ih =>
    intro j n
    by_cases hc : v.category = 2
    · simp only [jx_args, lv_args, if_pos hc, List.cons_append, jx_asc, ih]
    · simp only [jx_args, lv_args, if_neg hc, List.cons_append, jx_asc, ih]
/-! ===== the constants of a run, and that they stay ===== -/
def jx_least : Nat → Int32 := fun j => [0, -10000, 0, 0, 0, 1, 0].getD j 0
def jx_most : Nat → Int32 := fun j => [1, 10000, 1000, 20, 20, 4, 15].getD j 0
def jx_nm : List (String × Nat × MethodName × String) := [(RX5, 9, yX3_init, RX5), (RX4, 19, yX0_init, RX5), (RX4, 26, yX1_init, RX5), (RX4, 31, yX2_init, RX5), (RX4, 61, yX5_isIn, RX5), (RX2, 61, yX5_isIn, RX5)]
def jx_En (E : jx_E) (s : State) (H : Heap) : Prop :=
  va_K E.1 vwCl (jx_tys E) s ∧ True
  ∧ True
  ∧ (va_Z RX5 "LEAST_SETTING" "[I" (.ref (E.2.2.2.1 10)) (jx_A E) s H ∧ va_T .int (E.2.2.2.1 10) 7 (fun j => .int (jx_least j)) (jx_A E) s H)
  ∧ (va_Z RX5 "MOST_SETTING" "[I" (.ref (E.2.2.2.1 11)) (jx_A E) s H ∧ va_T .int (E.2.2.2.1 11) 7 (fun j => .int (jx_most j)) (jx_A E) s H)
  ∧ True ∧ True
  ∧ (∀ q ∈ jx_nm, va_Nw (.methodLinkNest q.1 q.2.1 q.2.2.1 q.2.2.2) s) ∧ (va_Nw (.fieldLinkNest RX4 73 RX5 "LEAST_SETTING" "[I" RX5) s ∧ va_Nw (.fieldLinkNest RX4 77 RX5 "MOST_SETTING" "[I" RX5) s)
  ∧ va_AO RX2 s ∧ va_AO RX4 s ∧ (va_X (E.2.2.2.1 12) E.2.2.2.2.1 E.2.2.2.2.2 s H ∧ E.2.2.2.1 12 < H.size ∧ ¬ jx_A E (E.2.2.2.1 12))
theorem jx_En.next {E : jx_E} {s U : State} {H : Heap} {locs : List Loc} (h : jx_En E s s.heap) (hS : va_S (jx_A E) s.heap H locs) (hU : U.heap = H) (hW : s.WarmedH U.vm) : jx_En E U U.heap := by
  subst hU
  obtain ⟨h1, -, -, ⟨b1, b2⟩, ⟨c1, c2⟩, -, -, e1, ⟨e2, e3⟩, f1, f2, g1, g2, g3⟩ := h
  have hv := hW.alike
  have hq := hS.2.1
  exact ⟨h1.moved hv, trivial, trivial, ⟨(b1.moved hv).kept hq, (b2.moved hv).kept hq⟩, ⟨(c1.moved hv).kept hq, (c2.moved hv).kept hq⟩, trivial, trivial, fun q hq => (e1 q hq).warmM hW, ⟨e2.warmF hW, e3.warmF hW⟩, f1.moved hv, f2.moved hv, (g1.moved hv).kept (hq _ g2 g3), Nat.lt_of_lt_of_le g2 hS.1, g3⟩
/-! ===== the judgement ===== -/
def jx_isRet (cd : ByteArray) (pc : Nat) (ret : Option FieldType) (v : Option Value) : Prop :=
  (decode cd pc = .ok (.ireturn, 1) ∧ ∃ (x : Int32) (ty : FieldType), v = some (.int x) ∧ ret = some ty ∧ narrow ty (.int x) = .int x)
  ∨ (decode cd pc = .ok (.return_, 1) ∧ v = none ∧ ret = none)
  ∨ (decode cd pc = .ok (.areturn, 1) ∧ ∃ (a : Nat) (nm : String), v = some (.ref a) ∧ ret = some (.object nm))
  ∨ (decode cd pc = .ok (.lreturn, 1) ∧ ∃ x : Int64, v = some (.long x) ∧ ret = some .long)
  ∨ (decode cd pc = .ok (.freturn, 1) ∧ ∃ x : UInt32, v = some (.float x) ∧ ret = some .float)
abbrev jx_Q : Type := Option Value → Nat → jx_K → jx_R → jx_I → Prop
def jx_X (E : jx_E) (cd : ByteArray) (nL : Nat) (ret : Option FieldType) (own : String) (ini : Bool) (p : Program) (s : State) (m : MethodId) (args : Array Value) (meth : Method) (c : Code) : Prop :=
  p.tables.exec = Jvm.exec ∧ c.code = cd ∧ meth.sig.returnType = ret ∧ meth.locks = false ∧ c.maxLocals = nL ∧ s.vm.findClass own = some m.cls ∧ (ini = true → meth.name = "<init>") ∧ (∀ w ∈ jx_W, w.before args s = true) ∧ jx_En E s s.heap ∧ E.2.2.1 ≤ s.heap.size
def jx_J (E : jx_E) (l : Launch) (cd : ByteArray) (nL : Nat) (ret : Option FieldType) (own : String) (ini : Bool) (Rm : Room) (mc ms : Nat) (Q : jx_Q) (cells slots n : Nat) (kd : jx_K) (R : jx_R) (I : jx_I) (pc : Nat) (lv : List (Option Value)) (st : List Value) : Prop :=
  ∀ (p : Program) (e : Env) (s : State) (m : MethodId) (args : Array Value) (below : List Frame) (meth : Method) (c : Code) (Z : State → Prop), jx_X E cd nL ret own ini p s m args meth c →
    (∀ (v : Option Value) (n' : Nat) (kd' : jx_K) (R' : jx_R) (I' : jx_I) (H' : Heap) (locs' : List Loc) (pc' : Nat) (ls' : Array Slot), Q v n' kd' R' I' → s.heap.size + mc = E.2.2.1 + n' → jx_Wd E n' kd' R' I' H' → va_S (jx_A E) s.heap H' locs' → jx_isRet cd pc' ret v → W p l e Rm s m args below meth c H' locs' mc ms Z (F0 m pc' ls' v.toList)) →
    ∀ (H : Heap) (locs : List Loc) (ls : Array Slot), s.heap.size + cells = E.2.2.1 + n → jx_Wd E n kd R I H → va_S (jx_A E) s.heap H locs → jx_L ls nL lv → W p l e Rm s m args below meth c H locs cells slots Z (F0 m pc ls st)
def jx_Qc (E : jx_E) (mc : Nat) (Q : jx_Q) : Array Value → State → Outcome → State → Prop := fun _ st oc t =>
  (∃ (v : Option Value) (n' : Nat) (kd' : jx_K) (R' : jx_R) (I' : jx_I), oc = .returned v ∧ Q v n' kd' R' I' ∧ st.heap.size + mc = E.2.2.1 + n' ∧ jx_Wd E n' kd' R' I' t.heap) ∧ va_F (jx_A E) st t
/-- a method's contract at the start h = (n, kd, R, I): depth d, cells mc, slots ms -/
def jx_Ct (E : jx_E) (l : Launch) (y : MethodName) (cd : ByteArray) (nL : Nat) (ret : Option FieldType) (d mc ms n : Nat) (kd : jx_K) (R : jx_R) (I : jx_I) (as : List Value) (Q : jx_Q) : Prop :=
  Met l y (.code y cd nL ret :: jx_W) { frames := d, cells := mc, slots := ms, locals := 32 * d } (va_Pc as (fun U => jx_En E U U.heap ∧ U.heap.size = E.2.2.1 + n ∧ jx_Wd E n kd R I U.heap)) (jx_Qc E mc Q) mc ms (jx_A E)
theorem jx_Ct.ofJ {E : jx_E} {l : Launch} {y : MethodName} {cd : ByteArray} {nL : Nat} {ret : Option FieldType} {d mc ms n : Nat} {kd : jx_K} {R : jx_R} {I : jx_I} {as : List Value} {Q : jx_Q} (ini : Bool) (lv : List (Option Value)) (hy : plainName y.cls = true) (hi : (y.name == "<init>") = ini) (hn : (lg_sl as).length ≤ nL) (hlv : jx_args as ++ List.replicate (nL - (lg_sl as).length) none = lv)
    (k : jx_J E l cd nL ret y.cls ini { frames := d, cells := mc, slots := ms, locals := 32 * d } mc ms Q 0 0 n kd R I 0 lv []) : jx_Ct E l y cd nL ret d mc ms n kd R I as Q := by
  subst hlv
  refine Met.ofW (cc := cd) (maxL := nL) (ret := ret) hy rfl ?_
  intro p e s m args below meth c s₁ B hml hv
  obtain ⟨rfl, hE, hB, hW⟩ := hv
  have hts := atoms_spec (ws := .code y cd nL ret :: jx_W) B.pre
  have hlocks := B.notSynchronized
  have hl := lv_entry as (n := nL) hn
  rw [lg_entry_eq]
  refine k p e s m _ below meth c _ ⟨B.exec, B.bytes, B.returns, hlocks, hml, findClass_of_methodNamed B.named, fun h => ?_, fun w h => hts w (List.mem_cons_of_mem _ h), hE, by omega⟩ ?_ s.heap [] _ hB hW va_S.rf ?_
  · rw [(name_of_methodNamed B.named B.method).1]
    rw [h] at hi
    simpa using hi
  · intro v n' kd' R' I' H' locs' pc' ls' hQ hN' hW' hS hr
    rcases hr with ⟨hd, x, ty, rfl, hrt, hnr⟩ | ⟨hd, rfl, hrt⟩ | ⟨hd, a, nm, rfl, hrt⟩ | ⟨hd, x, rfl, hrt⟩ | ⟨hd, x, rfl, hrt⟩
    · exact W.zret (ty := ty) B.exec B.bytes (B.returns.trans hrt) hnr (fun t ht _ => ⟨⟨_, n', kd', R', I', rfl, hQ, hN', by rw [ht]; exact hW'⟩, hS.F ht⟩) hS.2.2 hd
    · exact W.vret B.exec B.bytes (B.returns.trans hrt) (fun t ht _ => ⟨⟨_, n', kd', R', I', rfl, hQ, hN', by rw [ht]; exact hW'⟩, hS.F ht⟩) hS.2.2 hd
    · exact W.aret B.exec B.bytes (B.returns.trans hrt) (Or.inl ⟨nm, rfl⟩) (Or.inr ⟨a, rfl⟩) (fun t ht _ => ⟨⟨_, n', kd', R', I', rfl, hQ, hN', by rw [ht]; exact hW'⟩, hS.F ht⟩) hS.2.2 hd
    · exact W.lret B.exec B.bytes (B.returns.trans hrt) (fun t ht _ => ⟨⟨_, n', kd', R', I', rfl, hQ, hN', by rw [ht]; exact hW'⟩, hS.F ht⟩) hS.2.2 hd
    · exact W.fret B.exec B.bytes (B.returns.trans hrt) (fun t ht _ => ⟨⟨_, n', kd', R', I', rfl, hQ, hN', by rw [ht]; exact hW'⟩, hS.F ht⟩) hS.2.2 hd
  · show lv_has _ nL (jx_asc _ 0)
    rw [jx_args_asc]
    exact hl
