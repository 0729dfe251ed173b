section JR
variable {E : jx_E} {l : Launch} {cd : ByteArray} {nL : Nat} {ret : Option FieldType} {own : String} {ini : Bool} {Rm : Room} {mc ms : Nat} {Q : jx_Q} {cells slots n : Nat} {kd : jx_K} {R : jx_R} {I : jx_I} {pc pc' : Nat} {lv : List (Option Value)} {st : List Value}
theorem j_putR {ix ci k0 a mm q : Nat} {ty : FieldType} (hf : jx_fl own ix ci k0 true ty false)  (hk : kd a = (ci, mm)) (hn : narrow ty (.ref q) = .ref q) (hfit : fits ty (.ref q) = true) (hd : decode cd pc = .ok (.putfield ix, 3)) (hp : pc + 3 = pc') (k : jx_J E l cd nL ret own ini Rm mc ms Q cells slots n kd (jx_upR R a k0 (some q)) I pc' lv st) : jx_J E l cd nL ret own ini Rm mc ms Q cells slots n kd R I pc lv (.ref q :: .ref a :: st) := by
  subst hp
  intro p e s m args below meth c Z X hZ H locs ls hN hW hS hl
  obtain ⟨C, T, N, tys, hci, hc, hin, hty, hnm, hkN, hlay, hlk, hNl, hdt, hfin, hC⟩ := hf
  have ha : (kd a).1 ≤ 10 := by rw [hk]; show ci ≤ 10; omega
  obtain ⟨q0, hq0⟩ := jx_at hW ha
  have hq1 := hq0
  rw [jx_pf_obj hci hk] at hq0
  refine va_put X.1 X.2.1 (X.2.2.2.2.2.2.2.1) hin tys hty hnm X.2.2.2.2.2.1 X.2.2.2.2.2.2.2.2.1.1 hW.2 (jx_D E n _) hS q0 hq0 hc k0 hkN (X.2.2.2.2.2.2.2.1 _ hlk) (fun _ h => h) hfin   hdt hn hfit (by rw [jx_fs_len]; omega) hd (fun H1 locs1 hP1 _ hS1 => ?_)
  refine k p e s m args below meth c Z X hZ H1 locs1 ls hN ?_ hS1 hl
  rw [show Value.ref q = va_rf (some q) from rfl, jx_fs_setR _ _ _ _ _ _ hlay] at hP1
  refine jx_Wd_set hW ha hq1 hP1 (jx_pf_upR ?_)
  rw [hk, jx_cell, if_neg (by show ¬ ci = 7; omega), if_neg (by show ¬ ci = 8; omega), if_neg (by show ¬ ci = 9; omega), if_neg (by show ¬ ci = 10; omega), Nat.zero_add]
theorem j_putRF {ix ci k0 a mm q : Nat} {ty : FieldType} (hf : jx_fl own ix ci k0 true ty true) (hini : ini = true) (hoc : ∀ C T N, vwCl[ci]? = some (C, T, N) → C = own) (hk : kd a = (ci, mm)) (hn : narrow ty (.ref q) = .ref q) (hfit : fits ty (.ref q) = true) (hd : decode cd pc = .ok (.putfield ix, 3)) (hp : pc + 3 = pc') (k : jx_J E l cd nL ret own ini Rm mc ms Q cells slots n kd (jx_upR R a k0 (some q)) I pc' lv st) : jx_J E l cd nL ret own ini Rm mc ms Q cells slots n kd R I pc lv (.ref q :: .ref a :: st) := by
  subst hp
  intro p e s m args below meth c Z X hZ H locs ls hN hW hS hl
  obtain ⟨C, T, N, tys, hci, hc, hin, hty, hnm, hkN, hlay, hlk, hNl, hdt, hfin, hC⟩ := hf
  have ha : (kd a).1 ≤ 10 := by rw [hk]; show ci ≤ 10; omega
  obtain ⟨q0, hq0⟩ := jx_at hW ha
  have hq1 := hq0
  rw [jx_pf_obj hci hk] at hq0
  refine va_putF X.1 X.2.1 (X.2.2.2.2.2.2.2.1) hin tys hty hnm X.2.2.2.2.2.1 X.2.2.2.2.2.2.2.2.1.1 hW.2 (jx_D E n _) hS q0 hq0 hc k0 hkN (X.2.2.2.2.2.2.2.1 _ hlk) (fun _ h => h) hfin (X.2.2.2.2.2.2.1 hini) (hC.trans (hoc C T N hc)) hdt hn hfit (by rw [jx_fs_len]; omega) hd (fun H1 locs1 hP1 _ hS1 => ?_)
  refine k p e s m args below meth c Z X hZ H1 locs1 ls hN ?_ hS1 hl
  rw [show Value.ref q = va_rf (some q) from rfl, jx_fs_setR _ _ _ _ _ _ hlay] at hP1
  refine jx_Wd_set hW ha hq1 hP1 (jx_pf_upR ?_)
  rw [hk, jx_cell, if_neg (by show ¬ ci = 7; omega), if_neg (by show ¬ ci = 8; omega), if_neg (by show ¬ ci = 9; omega), if_neg (by show ¬ ci = 10; omega), Nat.zero_add]
theorem j_iald {a mm j : Nat} {i : Int32} (hk : kd a = (7, mm)) (hi : i = nI j) (hj : j < mm) (hm : mm < 2147483648) (hd : decode cd pc = .ok (.iaload, 1)) (hp : pc + 1 = pc') (k : jx_J E l cd nL ret own ini Rm mc ms Q cells slots n kd R I pc' lv (.int (I a j) :: st)) : jx_J E l cd nL ret own ini Rm mc ms Q cells slots n kd R I pc lv (.int i :: .ref a :: st) := by
  subst hp; subst hi
  intro p e s m args below meth c Z X hZ H locs ls hN hW hS hl
  obtain ⟨q0, hq0⟩ := jx_at hW (a := a) (by rw [hk]; show 7 ≤ 10; omega)
  rw [jx_pf_arrI hk] at hq0
  refine va_iald X.1 X.2.1 X.2.2.2.2.2.2.2.2.1.1 hW.2 q0 0 hq0 rfl (vp_in_nI hj hm) hd ?_
  rw [nI_clamp (by omega)]
  exact k p e s m args below meth c Z X hZ H locs ls hN hW hS hl
theorem j_cald {a mm j : Nat} {i : Int32} (hk : kd a = (8, mm)) (hi : i = nI j) (hj : j < mm) (hm : mm < 2147483648) (hd : decode cd pc = .ok (.caload, 1)) (hp : pc + 1 = pc') (k : jx_J E l cd nL ret own ini Rm mc ms Q cells slots n kd R I pc' lv (.int (I a j) :: st)) : jx_J E l cd nL ret own ini Rm mc ms Q cells slots n kd R I pc lv (.int i :: .ref a :: st) := by
  subst hp; subst hi
  intro p e s m args below meth c Z X hZ H locs ls hN hW hS hl
  obtain ⟨q0, hq0⟩ := jx_at hW (a := a) (by rw [hk]; show 8 ≤ 10; omega)
  rw [jx_pf_arrC hk] at hq0
  refine va_cald X.1 X.2.1 X.2.2.2.2.2.2.2.2.1.1 hW.2 q0 1 hq0 rfl (vp_in_nI hj hm) hd ?_
  rw [nI_clamp (by omega)]
  exact k p e s m args below meth c Z X hZ H locs ls hN hW hS hl
theorem j_iast {a mm j : Nat} {i x : Int32} (hk : kd a = (7, mm)) (hi : i = nI j) (hj : j < mm) (hm : mm < 2147483648) (hd : decode cd pc = .ok (.iastore, 1)) (hp : pc + 1 = pc') (k : jx_J E l cd nL ret own ini Rm mc ms Q cells slots n kd R (jx_up I a j x) pc' lv st) : jx_J E l cd nL ret own ini Rm mc ms Q cells slots n kd R I pc lv (.int x :: .int i :: .ref a :: st) := by
  subst hp; subst hi
  intro p e s m args below meth c Z X hZ H locs ls hN hW hS hl
  have ha : (kd a).1 ≤ 10 := by rw [hk]; show 7 ≤ 10; omega
  obtain ⟨q0, hq0⟩ := jx_at hW ha
  have hq1 := hq0
  rw [jx_pf_arrI hk] at hq0
  refine va_iast X.1 X.2.1 X.2.2.2.2.2.2.2.2.1.1 hW.2 (jx_D E n _) hS q0 0 hq0 rfl (vp_in_nI hj hm) hd (fun H1 locs1 hP1 _ hS1 => ?_)
  refine k p e s m args below meth c Z X hZ H1 locs1 ls hN ?_ hS1 hl
  rw [nI_clamp (by omega)] at hP1
  refine jx_Wd_set hW ha hq1 hP1 (jx_pf_upI ?_)
  rw [hk]
  simp [jx_cell]
theorem j_cast {a mm j : Nat} {i x : Int32} (hk : kd a = (8, mm)) (hi : i = nI j) (hj : j < mm) (hm : mm < 2147483648) (hx : vp_nar .char x = x) (hd : decode cd pc = .ok (.castore, 1)) (hp : pc + 1 = pc') (k : jx_J E l cd nL ret own ini Rm mc ms Q cells slots n kd R (jx_up I a j x) pc' lv st) : jx_J E l cd nL ret own ini Rm mc ms Q cells slots n kd R I pc lv (.int x :: .int i :: .ref a :: st) := by
  subst hp; subst hi
  intro p e s m args below meth c Z X hZ H locs ls hN hW hS hl
  have ha : (kd a).1 ≤ 10 := by rw [hk]; show 8 ≤ 10; omega
  obtain ⟨q0, hq0⟩ := jx_at hW ha
  have hq1 := hq0
  rw [jx_pf_arrC hk] at hq0
  refine va_cast X.1 X.2.1 X.2.2.2.2.2.2.2.2.1.1 hW.2 (jx_D E n _) hS q0 1 hq0 rfl (vp_in_nI hj hm) hd (fun H1 locs1 hP1 _ hS1 => ?_)
  refine k p e s m args below meth c Z X hZ H1 locs1 ls hN ?_ hS1 hl
  rw [nI_clamp (by omega), hx] at hP1
  refine jx_Wd_set hW ha hq1 hP1 (jx_pf_upI ?_)
  rw [hk]
  simp [jx_cell]
theorem j_aaldP {a mm j q : Nat} {i : Int32} (hk : kd a = (9, mm)) (hi : i = nI j) (hj : j < mm) (hm : mm < 2147483648) (hr : R a j = some q) (hd : decode cd pc = .ok (.aaload, 1)) (hp : pc + 1 = pc') (k : jx_J E l cd nL ret own ini Rm mc ms Q cells slots n kd R I pc' lv (.ref q :: st)) : jx_J E l cd nL ret own ini Rm mc ms Q cells slots n kd R I pc lv (.int i :: .ref a :: st) := by
  subst hp; subst hi
  intro p e s m args below meth c Z X hZ H locs ls hN hW hS hl
  obtain ⟨q0, hq0⟩ := jx_at hW (a := a) (by rw [hk]; show 9 ≤ 10; omega)
  rw [jx_pf_arrP hk] at hq0
  refine va_aldq X.1 X.2.1 X.2.2.2.2.2.2.2.2.1.1 hW.2 q0 2 hq0 rfl (vp_in_nI hj hm) hd ?_
  rw [nI_clamp (by omega), hr]
  exact k p e s m args below meth c Z X hZ H locs ls hN hW hS hl
theorem j_aastP {a mm j q m2 : Nat} {i : Int32} (hk : kd a = (9, mm)) (hi : i = nI j) (hj : j < mm) (hm : mm < 2147483648) (hq : kd q = (2, m2)) (hd : decode cd pc = .ok (.aastore, 1)) (hp : pc + 1 = pc') (k : jx_J E l cd nL ret own ini Rm mc ms Q cells slots n kd (jx_upR R a j (some q)) I pc' lv st) : jx_J E l cd nL ret own ini Rm mc ms Q cells slots n kd R I pc lv (.ref q :: .int i :: .ref a :: st) := by
  subst hp; subst hi
  intro p e s m args below meth c Z X hZ H locs ls hN hW hS hl
  have ha : (kd a).1 ≤ 10 := by rw [hk]; show 9 ≤ 10; omega
  obtain ⟨q0, hq0⟩ := jx_at hW ha
  obtain ⟨q2, hq2⟩ := jx_at hW (a := q) (by rw [hq]; show 2 ≤ 10; omega)
  have hq1 := hq0
  rw [jx_pf_arrP hk] at hq0
  rw [jx_pf_obj (by omega) hq] at hq2
  refine va_astq (r := (RX2, TX2, 11)) X.1 X.2.1 X.2.2.2.2.2.2.2.2.1.1 hW.2 (jx_D E n _) hS q0 2 q2 2 hq0 rfl hq2 rfl (vp_in_nI hj hm) hd (fun H1 locs1 hP1 _ hS1 => ?_)
  refine k p e s m args below meth c Z X hZ H1 locs1 ls hN ?_ hS1 hl
  rw [nI_clamp (by omega)] at hP1
  refine jx_Wd_set hW ha hq1 hP1 (jx_pf_upR ?_)
  rw [hk]
  simp [jx_cell]
theorem j_aaldS {a mm j q : Nat} {i : Int32} (hk : kd a = (10, mm)) (hi : i = nI j) (hj : j < mm) (hm : mm < 2147483648) (hr : R a j = some q) (hd : decode cd pc = .ok (.aaload, 1)) (hp : pc + 1 = pc') (k : jx_J E l cd nL ret own ini Rm mc ms Q cells slots n kd R I pc' lv (.ref q :: st)) : jx_J E l cd nL ret own ini Rm mc ms Q cells slots n kd R I pc lv (.int i :: .ref a :: st) := by
  subst hp; subst hi
  intro p e s m args below meth c Z X hZ H locs ls hN hW hS hl
  obtain ⟨q0, hq0⟩ := jx_at hW (a := a) (by rw [hk]; show 10 ≤ 10; omega)
  rw [jx_pf_arrS hk] at hq0
  refine va_aldq X.1 X.2.1 X.2.2.2.2.2.2.2.2.1.1 hW.2 q0 3 hq0 rfl (vp_in_nI hj hm) hd ?_
  rw [nI_clamp (by omega), hr]
  exact k p e s m args below meth c Z X hZ H locs ls hN hW hS hl
theorem j_aastS {a mm j q m2 : Nat} {i : Int32} (hk : kd a = (10, mm)) (hi : i = nI j) (hj : j < mm) (hm : mm < 2147483648) (hq : kd q = (4, m2)) (hd : decode cd pc = .ok (.aastore, 1)) (hp : pc + 1 = pc') (k : jx_J E l cd nL ret own ini Rm mc ms Q cells slots n kd (jx_upR R a j (some q)) I pc' lv st) : jx_J E l cd nL ret own ini Rm mc ms Q cells slots n kd R I pc lv (.ref q :: .int i :: .ref a :: st) := by
  subst hp; subst hi
  intro p e s m args below meth c Z X hZ H locs ls hN hW hS hl
  have ha : (kd a).1 ≤ 10 := by rw [hk]; show 10 ≤ 10; omega
  obtain ⟨q0, hq0⟩ := jx_at hW ha
  obtain ⟨q2, hq2⟩ := jx_at hW (a := q) (by rw [hq]; show 4 ≤ 10; omega)
  have hq1 := hq0
  rw [jx_pf_arrS hk] at hq0
  rw [jx_pf_obj (by omega) hq] at hq2
  refine va_astq (r := (RX4, TX4, 9)) X.1 X.2.1 X.2.2.2.2.2.2.2.2.1.1 hW.2 (jx_D E n _) hS q0 3 q2 4 hq0 rfl hq2 rfl (vp_in_nI hj hm) hd (fun H1 locs1 hP1 _ hS1 => ?_)
  refine k p e s m args below meth c Z X hZ H1 locs1 ls hN ?_ hS1 hl
  rw [nI_clamp (by omega)] at hP1
  refine jx_Wd_set hW ha hq1 hP1 (jx_pf_upR ?_)
  rw [hk]
  simp [jx_cell]
def jx_nw (own : String) (ix ci N : Nat) : Prop :=
  ∃ (C : String) (T : u_T) (tys : Nat → FieldType), ci < 7 ∧ vwCl[ci]? = some (C, T, N) ∧ (∀ w ∈ u_ws C T N, w ∈ jx_W) ∧ (∀ k, k < N → parseFieldDescriptor (T k).2.2.1 = some (tys k)) ∧ Cond.classLink own ix C ∈ jx_W ∧ Cond.instantiable C N ∈ jx_W ∧ Cond.initialized C ∈ jx_W ∧ (∀ j, j < N → defaultValue (tys j) = vp_V (jx_fs (jx_lay ci) (fun _ => none) (fun _ => 0) 0) j)
theorem j_new {ix ci N : Nat} (hf : jx_nw own ix ci N) (hcells : cells + 1 ≤ Rm.cells) (hslots : slots + N ≤ Rm.slots) (hd : decode cd pc = .ok (.new ix, 3)) (hp : pc + 3 = pc') (k : jx_J E l cd nL ret own ini Rm mc ms Q (cells + 1) (slots + N) (n + 1) (va_up kd (E.2.2.1 + n) (ci, 0)) (va_up R (E.2.2.1 + n) (fun _ => none)) (va_up I (E.2.2.1 + n) (fun _ => 0)) pc' lv (.ref (E.2.2.1 + n) :: st)) : jx_J E l cd nL ret own ini Rm mc ms Q cells slots n kd R I pc lv st := by
  subst hp
  intro p e s m args below meth c Z X hZ H locs ls hN hW hS hl
  obtain ⟨C, T, tys, hci, hc, hin, hty, hcl, hins, hini, hfs⟩ := hf
  intro T0 hT XS
  have hz := jx_size XS hT X.2.2.2.2.2.2.2.2.2 hN hW
  have hKn := (X.2.2.2.2.2.2.2.2.1.1).1 ci _ hc
  have hN' := hN
  refine (show W p l e Rm s m args below meth c H locs cells slots Z (F0 m pc ls st) from ?_) T0 hT XS
  refine W.newcK X.1 X.2.1 X.2.2.2.2.2.1 (X.2.2.2.2.2.2.2.1 _ hcl) (X.2.2.2.2.2.2.2.1 _ hins) (X.2.2.2.2.2.2.2.1 _ hini) rfl hd hcells hslots hKn.2.1 hz fun H1 kC hkC e1 z1 o1 => ?_
  have hk0 : ∀ (k : Nat) (x : Nat × va_E), ([] ++ va_pl (List.range' E.2.2.1 n) (jx_pf E kd R I))[k]? = some x → H1[x.1]? = H[x.1]? := fun k x hx => o1 x.1 (by rw [← hz]; exact (hW.2 k x hx).lt)
  refine (k p e s m args below meth c Z X hZ H1 locs ls (by omega) (jx_Wd_push hW (q := (ci, 0)) (e := (.inr (ci, jx_fs (jx_lay ci) (fun _ => none) (fun _ => 0) 0))) ((hW.2.kept hk0).app (fun k x hx => ?_)) ?_) ⟨by omega, fun x h1 h2 => (o1 x (by have := hS.1; omega)).trans (hS.2.1 x h1 h2), hS.2.2⟩ hl)
  · have hz2 : k < 1 := (List.getElem?_eq_some_iff.mp hx).1
    rw [show k = 0 by omega] at hx
    cases hx
    exact ⟨_, hc, (u_born tys (X.2.2.2.2.2.2.2.1) hin hKn hkC e1 hty).to hfs⟩
  · simp only [jx_cell]
    rw [if_neg (by omega), if_neg (by omega), if_neg (by omega), if_neg (by omega)]
theorem j_newaI {mm : Nat} {i : Int32} (hi : i = nI mm) (hm : mm < 65536) (hcells : cells + 1 ≤ Rm.cells) (hslots : slots + mm ≤ Rm.slots) (hw : Cond.arrayClass .int ∈ jx_W) (hd : decode cd pc = .ok (.newarray .int, 2)) (hp : pc + 2 = pc') (k : jx_J E l cd nL ret own ini Rm mc ms Q (cells + 1) (slots + mm) (n + 1) (va_up kd (E.2.2.1 + n) (7, mm)) (va_up R (E.2.2.1 + n) (fun _ => none)) (va_up I (E.2.2.1 + n) (fun _ => 0)) pc' lv (.ref (E.2.2.1 + n) :: st)) : jx_J E l cd nL ret own ini Rm mc ms Q cells slots n kd R I pc lv (.int i :: st) := by
  subst hp; subst hi
  intro p e s m args below meth c Z X hZ H locs ls hN hW hS hl
  intro T0 hT XS
  have hz := jx_size XS hT X.2.2.2.2.2.2.2.2.2 hN hW
  have hN' := hN
  refine (show W p l e Rm s m args below meth c H locs cells slots Z (F0 m pc ls (.int (nI mm) :: st)) from ?_) T0 hT XS
  refine va_newaK (atype := .int) (N := mm) X.1 X.2.1 (X.2.2.2.2.2.2.2.1 _ hw) rfl hd rfl (nI_pos (by omega)) (nI_clamp (by omega)) (by show mm * _ ≤ _; simp [newarray.typeOf, componentBytes]; omega) hcells hslots hz fun H1 cA e1 z1 o1 hAr hNm => ?_
  have hcA : cA = E.2.1 0 := by
    have h1 := ((X.2.2.2.2.2.2.2.2.1.1).2 0 (E.2.1 0, .int) rfl).2
    exact Option.some.inj (hNm.symm.trans h1)
  subst hcA
  have hk0 : ∀ (k : Nat) (x : Nat × va_E), ([] ++ va_pl (List.range' E.2.2.1 n) (jx_pf E kd R I))[k]? = some x → H1[x.1]? = H[x.1]? := fun k x hx => o1 x.1 (by rw [← hz]; exact (hW.2 k x hx).lt)
  refine (k p e s m args below meth c Z X hZ H1 locs ls (by omega) (jx_Wd_push hW (q := (7, mm)) (e := (.inl (E.2.1 0, mm, .inl (fun _ => 0)))) ((hW.2.kept hk0).app (fun k x hx => ?_)) ?_) ⟨by omega, fun x h1 h2 => (o1 x (by have := hS.1; omega)).trans (hS.2.1 x h1 h2), hS.2.2⟩ hl)
  · have hz2 : k < 1 := (List.getElem?_eq_some_iff.mp hx).1
    rw [show k = 0 by omega] at hx
    cases hx
    exact e1
  · simp [jx_cell]
theorem j_newaC {mm : Nat} {i : Int32} (hi : i = nI mm) (hm : mm < 65536) (hcells : cells + 1 ≤ Rm.cells) (hslots : slots + mm ≤ Rm.slots) (hw : Cond.arrayClass .char ∈ jx_W) (hd : decode cd pc = .ok (.newarray .char, 2)) (hp : pc + 2 = pc') (k : jx_J E l cd nL ret own ini Rm mc ms Q (cells + 1) (slots + mm) (n + 1) (va_up kd (E.2.2.1 + n) (8, mm)) (va_up R (E.2.2.1 + n) (fun _ => none)) (va_up I (E.2.2.1 + n) (fun _ => 0)) pc' lv (.ref (E.2.2.1 + n) :: st)) : jx_J E l cd nL ret own ini Rm mc ms Q cells slots n kd R I pc lv (.int i :: st) := by
  subst hp; subst hi
  intro p e s m args below meth c Z X hZ H locs ls hN hW hS hl
  intro T0 hT XS
  have hz := jx_size XS hT X.2.2.2.2.2.2.2.2.2 hN hW
  have hN' := hN
  refine (show W p l e Rm s m args below meth c H locs cells slots Z (F0 m pc ls (.int (nI mm) :: st)) from ?_) T0 hT XS
  refine va_newaK (atype := .char) (N := mm) X.1 X.2.1 (X.2.2.2.2.2.2.2.1 _ hw) rfl hd rfl (nI_pos (by omega)) (nI_clamp (by omega)) (by show mm * _ ≤ _; simp [newarray.typeOf, componentBytes]; omega) hcells hslots hz fun H1 cA e1 z1 o1 hAr hNm => ?_
  have hcA : cA = E.2.1 1 := by
    have h1 := ((X.2.2.2.2.2.2.2.2.1.1).2 1 (E.2.1 1, .char) rfl).2
    exact Option.some.inj (hNm.symm.trans h1)
  subst hcA
  have hk0 : ∀ (k : Nat) (x : Nat × va_E), ([] ++ va_pl (List.range' E.2.2.1 n) (jx_pf E kd R I))[k]? = some x → H1[x.1]? = H[x.1]? := fun k x hx => o1 x.1 (by rw [← hz]; exact (hW.2 k x hx).lt)
  refine (k p e s m args below meth c Z X hZ H1 locs ls (by omega) (jx_Wd_push hW (q := (8, mm)) (e := (.inl (E.2.1 1, mm, .inl (fun _ => 0)))) ((hW.2.kept hk0).app (fun k x hx => ?_)) ?_) ⟨by omega, fun x h1 h2 => (o1 x (by have := hS.1; omega)).trans (hS.2.1 x h1 h2), hS.2.2⟩ hl)
  · have hz2 : k < 1 := (List.getElem?_eq_some_iff.mp hx).1
    rw [show k = 0 by omega] at hx
    cases hx
    exact e1
  · simp [jx_cell]
theorem j_anewP {ix mm : Nat} {i : Int32} (hi : i = nI mm) (hm : mm < 65536) (hcells : cells + 1 ≤ Rm.cells) (hslots : slots + mm ≤ Rm.slots) (hw : Cond.classLink own ix RX2 ∈ jx_W) (hd : decode cd pc = .ok (.anewarray ix, 3)) (hp : pc + 3 = pc') (k : jx_J E l cd nL ret own ini Rm mc ms Q (cells + 1) (slots + mm) (n + 1) (va_up kd (E.2.2.1 + n) (9, mm)) (va_up R (E.2.2.1 + n) (fun _ => none)) (va_up I (E.2.2.1 + n) (fun _ => 0)) pc' lv (.ref (E.2.2.1 + n) :: st)) : jx_J E l cd nL ret own ini Rm mc ms Q cells slots n kd R I pc lv (.int i :: st) := by
  subst hp; subst hi
  intro p e s m args below meth c Z X hZ H locs ls hN hW hS hl
  intro T0 hT XS
  have hz := jx_size XS hT X.2.2.2.2.2.2.2.2.2 hN hW
  have hN' := hN
  have hao : va_AO RX2 s := X.2.2.2.2.2.2.2.2.1.2.2.2.2.2.2.2.2.2.1
  refine (show W p l e Rm s m args below meth c H locs cells slots Z (F0 m pc ls (.int (nI mm) :: st)) from ?_) T0 hT XS
  refine W.anew X.1 X.2.1 X.2.2.2.2.2.1 (X.2.2.2.2.2.2.2.1 _ hw) (va_AO.use hao) rfl hd rfl (nI_pos (by omega)) (by rw [nI_clamp (by omega)]; omega) hcells (by rw [nI_clamp (by omega)]; exact hslots) fun cA kA comp f1 f2 f3 f4 => ?_
  have hcA : cA = E.2.1 2 := by
    obtain ⟨_, _, _, _, _, h1⟩ := ((X.2.2.2.2.2.2.2.2.1.1).2 2 (E.2.1 2, .object RX2) rfl).2
    exact Option.some.inj (f1.symm.trans h1)
  subst hcA
  rw [nI_clamp (by omega), hz]
  generalize hH1 : H.push ({ cls := E.2.1 2, slots := Array.replicate mm .null, vm := .none } : Cell) = H1
  have z1 : H1.size = E.2.2.1 + n + 1 := by rw [← hH1, Array.size_push, hz]
  have e1 : H1[E.2.2.1 + n]? = some (arrV (E.2.1 2) mm (fun _ => .null)) := by rw [← hH1, ← hz, Array.getElem?_push_size, ← arrV_new]
  have o1 : ∀ q : Nat, q < E.2.2.1 + n → H1[q]? = H[q]? := fun q hq => by rw [← hH1, Array.getElem?_push, if_neg (by rw [hz]; exact Nat.ne_of_lt hq)]
  have hk0 : ∀ (k : Nat) (x : Nat × va_E), ([] ++ va_pl (List.range' E.2.2.1 n) (jx_pf E kd R I))[k]? = some x → H1[x.1]? = H[x.1]? := fun k x hx => o1 x.1 (by rw [← hz]; exact (hW.2 k x hx).lt)
  refine (k p e s m args below meth c Z X hZ H1 locs ls (by omega) (jx_Wd_push hW (q := (9, mm)) (e := (.inl (E.2.1 2, mm, .inr (.inr (.inr (.inr (fun _ => none))))))) ((hW.2.kept hk0).app (fun k x hx => ?_)) ?_) ⟨by omega, fun x h1 h2 => (o1 x (by have := hS.1; omega)).trans (hS.2.1 x h1 h2), hS.2.2⟩ hl)
  · have hz2 : k < 1 := (List.getElem?_eq_some_iff.mp hx).1
    rw [show k = 0 by omega] at hx
    cases hx
    show H1[_]? = some (vp_cell _ _)
    rw [vp_cell_q]
    exact e1
  · simp [jx_cell]
theorem j_anewS {ix mm : Nat} {i : Int32} (hi : i = nI mm) (hm : mm < 65536) (hcells : cells + 1 ≤ Rm.cells) (hslots : slots + mm ≤ Rm.slots) (hw : Cond.classLink own ix RX4 ∈ jx_W) (hd : decode cd pc = .ok (.anewarray ix, 3)) (hp : pc + 3 = pc') (k : jx_J E l cd nL ret own ini Rm mc ms Q (cells + 1) (slots + mm) (n + 1) (va_up kd (E.2.2.1 + n) (10, mm)) (va_up R (E.2.2.1 + n) (fun _ => none)) (va_up I (E.2.2.1 + n) (fun _ => 0)) pc' lv (.ref (E.2.2.1 + n) :: st)) : jx_J E l cd nL ret own ini Rm mc ms Q cells slots n kd R I pc lv (.int i :: st) := by
  subst hp; subst hi
  intro p e s m args below meth c Z X hZ H locs ls hN hW hS hl
  intro T0 hT XS
  have hz := jx_size XS hT X.2.2.2.2.2.2.2.2.2 hN hW
  have hN' := hN
  have hao : va_AO RX4 s := X.2.2.2.2.2.2.2.2.1.2.2.2.2.2.2.2.2.2.2.1
  refine (show W p l e Rm s m args below meth c H locs cells slots Z (F0 m pc ls (.int (nI mm) :: st)) from ?_) T0 hT XS
  refine W.anew X.1 X.2.1 X.2.2.2.2.2.1 (X.2.2.2.2.2.2.2.1 _ hw) (va_AO.use hao) rfl hd rfl (nI_pos (by omega)) (by rw [nI_clamp (by omega)]; omega) hcells (by rw [nI_clamp (by omega)]; exact hslots) fun cA kA comp f1 f2 f3 f4 => ?_
  have hcA : cA = E.2.1 3 := by
    obtain ⟨_, _, _, _, _, h1⟩ := ((X.2.2.2.2.2.2.2.2.1.1).2 3 (E.2.1 3, .object RX4) rfl).2
    exact Option.some.inj (f1.symm.trans h1)
  subst hcA
  rw [nI_clamp (by omega), hz]
  generalize hH1 : H.push ({ cls := E.2.1 3, slots := Array.replicate mm .null, vm := .none } : Cell) = H1
  have z1 : H1.size = E.2.2.1 + n + 1 := by rw [← hH1, Array.size_push, hz]
  have e1 : H1[E.2.2.1 + n]? = some (arrV (E.2.1 3) mm (fun _ => .null)) := by rw [← hH1, ← hz, Array.getElem?_push_size, ← arrV_new]
  have o1 : ∀ q : Nat, q < E.2.2.1 + n → H1[q]? = H[q]? := fun q hq => by rw [← hH1, Array.getElem?_push, if_neg (by rw [hz]; exact Nat.ne_of_lt hq)]
  have hk0 : ∀ (k : Nat) (x : Nat × va_E), ([] ++ va_pl (List.range' E.2.2.1 n) (jx_pf E kd R I))[k]? = some x → H1[x.1]? = H[x.1]? := fun k x hx => o1 x.1 (by rw [← hz]; exact (hW.2 k x hx).lt)
  refine (k p e s m args below meth c Z X hZ H1 locs ls (by omega) (jx_Wd_push hW (q := (10, mm)) (e := (.inl (E.2.1 3, mm, .inr (.inr (.inr (.inr (fun _ => none))))))) ((hW.2.kept hk0).app (fun k x hx => ?_)) ?_) ⟨by omega, fun x h1 h2 => (o1 x (by have := hS.1; omega)).trans (hS.2.1 x h1 h2), hS.2.2⟩ hl)
  · have hz2 : k < 1 := (List.getElem?_eq_some_iff.mp hx).1
    rw [show k = 0 by omega] at hx
    cases hx
    show H1[_]? = some (vp_cell _ _)
    rw [vp_cell_q]
    exact e1
  · simp [jx_cell]
theorem j_objInit {ix a : Nat} (hl1 : Cond.methodLink own ix objectInit ∈ jx_W) (hl2 : Cond.instanceMethod objectInit ∈ jx_W) (hl3 : Cond.code objectInit ⟨#[0xb1]⟩ 1 none ∈ jx_W) (hfr : 1 ≤ Rm.frames) (hlo : (st.map fun v => v.category).sum + 12 ≤ Rm.locals) (hd : decode cd pc = .ok (.invokespecial ix, 3)) (hp : pc + 3 = pc') (k : jx_J E l cd nL ret own ini Rm mc ms Q cells slots n kd R I pc' lv st) : jx_J E l cd nL ret own ini Rm mc ms Q cells slots n kd R I pc lv (.ref a :: st) := by
  subst hp
  intro p e s m args below meth c Z X hZ H locs ls hN hW hS hl
  exact W.objInit X.1 X.2.1 X.2.2.2.2.2.1 (X.2.2.2.2.2.2.2.1 _ hl1) (X.2.2.2.2.2.2.2.1 _ hl2) (X.2.2.2.2.2.2.2.1 _ hl3) rfl (by rw [X.2.2.2.2.1]; exact hl.1) rfl hd hfr (by show 2 * 0 + _ + 12 ≤ _; omega) (k p e s m args below meth c Z X hZ H locs ls hN hW hS hl)
end JR
