/-! ===== the start: what is there before the law begins ===== -/
theorem lt_1 {w : Cond} (i : Nat) (h : tables_1_1[i]? = some w) : w ∈ lw_tbl := List.mem_append_right _ (List.mem_append_left _ (List.mem_of_getElem? h))
theorem lt_2 {w : Cond} (i : Nat) (h : tables_1_2[i]? = some w) : w ∈ lw_tbl := List.mem_append_right _ (List.mem_append_right _ (List.mem_append_left _ (List.mem_of_getElem? h)))
theorem lt_3 {w : Cond} (i : Nat) (h : tables_1_3[i]? = some w) : w ∈ lw_tbl := List.mem_append_right _ (List.mem_append_right _ (List.mem_append_right _ (List.mem_of_getElem? h)))
theorem jw_t {w : Cond} (h : w ∈ jx_W) : w ∈ lw_tbl := (List.mem_filter.mp h).1
theorem arr_i {s : State} {args : Array Value} {ty : FieldType} (h : (Cond.arrayClass ty).before args s = true) (hty : ∀ C, ty ≠ .object C) : ∃ c, ArrOfT s c ty ∧ va_RA s c ty := by
  obtain ⟨c, k, comp, h1, h2, h3⟩ := Cond.arrayClass_spec (args := args) (first := s) (o := none) (s := s) (idx := []) h
  refine ⟨c, fun n z => ⟨fun k h => (by cases h), k, h2, comp, h3⟩, ?_⟩
  cases ty with
  | object C => exact absurd rfl (hty C)
  | _ => exact h1
theorem arr_o {s : State} {args : Array Value} {C : String} (h : (Cond.arrayOver (.object C)).before args s = true) : ∃ c, ArrOfT s c (.object C) ∧ va_RA s c (.object C) := by
  obtain ⟨comp, c, k, h1, _, h2, h3, h4⟩ := Cond.arrayOver_spec (args := args) (first := s) (o := none) (s := s) (idx := []) h
  exact ⟨c, fun n z => ⟨fun k h => (by cases h), k, h2, comp, h3⟩, k, comp, h2, h3, h1, h4⟩
theorem st_cls {s : State} {b : Nat} (hts : ∀ w ∈ lw_tbl, w.before #[Value.ref b] s = true) : ∃ (dC : Nat → ClassId) (dI : Nat → Nat → Nat), ∀ (k : Nat) (q : vw_C), vwCl[k]? = some q → u_Kn s q.1 q.2.1 q.2.2 (dC k) (dI k) := by
  have hw : ∀ w ∈ jx_W, w.before #[Value.ref b] s = true := fun w h => hts w (jw_t h)
  obtain ⟨c0, i0, h0⟩ := u_known (C := RX0) (T := TX0) (N := 6) hw jwX0 (hw _ k_37)
  obtain ⟨c1, i1, h1⟩ := u_known (C := RX1) (T := TX1) (N := 4) hw jwX1 (hw _ k_54)
  obtain ⟨c2, i2, h2⟩ := u_known (C := RX2) (T := TX2) (N := 11) hw jwX2 (hw _ k_63)
  obtain ⟨c3, i3, h3⟩ := u_known (C := RX3) (T := TX3) (N := 8) hw jwX3 (hw _ k_18)
  obtain ⟨c4, i4, h4⟩ := u_known (C := RX4) (T := TX4) (N := 9) hw jwX4 (hw _ k_30)
  obtain ⟨c5, i5, h5⟩ := u_known (C := RX5) (T := TX5) (N := 6) hw jwX5 (hw _ k_10)
  refine ⟨fun k => if k = 0 then c0 else if k = 1 then c1 else if k = 2 then c2 else if k = 3 then c3 else if k = 4 then c4 else c5, fun k => if k = 0 then i0 else if k = 1 then i1 else if k = 2 then i2 else if k = 3 then i3 else if k = 4 then i4 else i5, ?_⟩
  intro k q hq
  match k, hq with
  | 0, hq => cases hq; exact h0
  | 1, hq => cases hq; exact h1
  | 2, hq => cases hq; exact h2
  | 3, hq => cases hq; exact h3
  | 4, hq => cases hq; exact h4
  | 5, hq => cases hq; exact h5
  | k + 6, hq => simp [vwCl] at hq
theorem st_jx_least {s : State} {b : Nat} {Ap : Nat → Prop} (hts : ∀ w ∈ lw_tbl, w.before #[Value.ref b] s = true) (hg : ∀ w ∈ flatC (Jvm.Cond.and given_1 narrow_1), w.before #[Value.ref b] s = true) (hA : ∀ a : Nat, a < s.heap.size → ¬ Ap a) : ∃ t : Nat, va_Z RX5 "LEAST_SETTING" "[I" (.ref t) Ap s s.heap ∧ va_T .int t 7 (fun j => .int (jx_least j)) Ap s s.heap := by
  have hel : ∀ j : Nat, j < 7 → (Term.elem (Term.static "AlarmDesk" "LEAST_SETTING" "[I") (.int (Int32.ofNat j))).eval #[Value.ref b] s none [] s = some (.int (jx_least j)) := by
    intro j hj
    have hjc : j = 0 ∨ j = 1 ∨ j = 2 ∨ j = 3 ∨ j = 4 ∨ j = 5 ∨ j = 6 := by omega
    rcases hjc with rfl | rfl | rfl | rfl | rfl | rfl | rfl
    · exact va_eqt (hg (Cond.eq (.elem (Term.static "AlarmDesk" "LEAST_SETTING" "[I") (.int (0 : Int32))) (.int (0 : Int32))) (by decide +kernel))
    · exact va_eqt (hg (Cond.eq (.elem (Term.static "AlarmDesk" "LEAST_SETTING" "[I") (.int (1 : Int32))) (.int (-10000 : Int32))) (by decide +kernel))
    · exact va_eqt (hg (Cond.eq (.elem (Term.static "AlarmDesk" "LEAST_SETTING" "[I") (.int (2 : Int32))) (.int (0 : Int32))) (by decide +kernel))
    · exact va_eqt (hg (Cond.eq (.elem (Term.static "AlarmDesk" "LEAST_SETTING" "[I") (.int (3 : Int32))) (.int (0 : Int32))) (by decide +kernel))
    · exact va_eqt (hg (Cond.eq (.elem (Term.static "AlarmDesk" "LEAST_SETTING" "[I") (.int (4 : Int32))) (.int (0 : Int32))) (by decide +kernel))
    · exact va_eqt (hg (Cond.eq (.elem (Term.static "AlarmDesk" "LEAST_SETTING" "[I") (.int (5 : Int32))) (.int (1 : Int32))) (by decide +kernel))
    · exact va_eqt (hg (Cond.eq (.elem (Term.static "AlarmDesk" "LEAST_SETTING" "[I") (.int (6 : Int32))) (.int (0 : Int32))) (by decide +kernel))
  obtain ⟨t, h1, h2⟩ := va_Tof (tm := Term.static "AlarmDesk" "LEAST_SETTING" "[I") (ty := .int) (N := 7) (f := fun j => .int (jx_least j)) (A := Ap) (args := #[Value.ref b]) (s := s) (by decide) (hg (Cond.arrayOf (Term.static "AlarmDesk" "LEAST_SETTING" "[I") .int) (by decide +kernel)) (va_eqt (hg (Cond.eq (.length (Term.static "AlarmDesk" "LEAST_SETTING" "[I")) (.int (7 : Int32))) (by decide +kernel))) hel hA
  exact ⟨t, va_Zof (args := #[Value.ref b]) (hts _ (lt_2 35 rfl)) (hts _ (jw_t k_1)) h1 hA, h2⟩
theorem st_jx_most {s : State} {b : Nat} {Ap : Nat → Prop} (hts : ∀ w ∈ lw_tbl, w.before #[Value.ref b] s = true) (hg : ∀ w ∈ flatC (Jvm.Cond.and given_1 narrow_1), w.before #[Value.ref b] s = true) (hA : ∀ a : Nat, a < s.heap.size → ¬ Ap a) : ∃ t : Nat, va_Z RX5 "MOST_SETTING" "[I" (.ref t) Ap s s.heap ∧ va_T .int t 7 (fun j => .int (jx_most j)) Ap s s.heap := by
  have hel : ∀ j : Nat, j < 7 → (Term.elem (Term.static "AlarmDesk" "MOST_SETTING" "[I") (.int (Int32.ofNat j))).eval #[Value.ref b] s none [] s = some (.int (jx_most j)) := by
    intro j hj
    have hjc : j = 0 ∨ j = 1 ∨ j = 2 ∨ j = 3 ∨ j = 4 ∨ j = 5 ∨ j = 6 := by omega
    rcases hjc with rfl | rfl | rfl | rfl | rfl | rfl | rfl
    · exact va_eqt (hg (Cond.eq (.elem (Term.static "AlarmDesk" "MOST_SETTING" "[I") (.int (0 : Int32))) (.int (1 : Int32))) (by decide +kernel))
    · exact va_eqt (hg (Cond.eq (.elem (Term.static "AlarmDesk" "MOST_SETTING" "[I") (.int (1 : Int32))) (.int (10000 : Int32))) (by decide +kernel))
    · exact va_eqt (hg (Cond.eq (.elem (Term.static "AlarmDesk" "MOST_SETTING" "[I") (.int (2 : Int32))) (.int (1000 : Int32))) (by decide +kernel))
    · exact va_eqt (hg (Cond.eq (.elem (Term.static "AlarmDesk" "MOST_SETTING" "[I") (.int (3 : Int32))) (.int (20 : Int32))) (by decide +kernel))
    · exact va_eqt (hg (Cond.eq (.elem (Term.static "AlarmDesk" "MOST_SETTING" "[I") (.int (4 : Int32))) (.int (20 : Int32))) (by decide +kernel))
    · exact va_eqt (hg (Cond.eq (.elem (Term.static "AlarmDesk" "MOST_SETTING" "[I") (.int (5 : Int32))) (.int (4 : Int32))) (by decide +kernel))
    · exact va_eqt (hg (Cond.eq (.elem (Term.static "AlarmDesk" "MOST_SETTING" "[I") (.int (6 : Int32))) (.int (15 : Int32))) (by decide +kernel))
  obtain ⟨t, h1, h2⟩ := va_Tof (tm := Term.static "AlarmDesk" "MOST_SETTING" "[I") (ty := .int) (N := 7) (f := fun j => .int (jx_most j)) (A := Ap) (args := #[Value.ref b]) (s := s) (by decide) (hg (Cond.arrayOf (Term.static "AlarmDesk" "MOST_SETTING" "[I") .int) (by decide +kernel)) (va_eqt (hg (Cond.eq (.length (Term.static "AlarmDesk" "MOST_SETTING" "[I")) (.int (7 : Int32))) (by decide +kernel))) hel hA
  exact ⟨t, va_Zof (args := #[Value.ref b]) (hts _ (lt_2 37 rfl)) (hts _ (jw_t k_1)) h1 hA, h2⟩
theorem en_start {s : State} {b L : Nat} {xs : Nat → Int32} (hts : ∀ w ∈ lw_tbl, w.before #[Value.ref b] s = true) (hX : va_X b L xs s s.heap) (hbl : b < s.heap.size) (hg : ∀ w ∈ flatC (Jvm.Cond.and given_1 narrow_1), w.before #[Value.ref b] s = true) : ∃ E : jx_E, E.2.2.1 = s.heap.size ∧ scA E = b ∧ scL E = L ∧ jx_En E s s.heap := by
  have hA : ∀ a : Nat, a < s.heap.size → ¬ (fun q => s.heap.size ≤ q) a := fun a h => Nat.not_le.mpr h
  obtain ⟨dC, dI, hK⟩ := st_cls hts
  obtain ⟨tl, hl1, hl2⟩ := st_jx_least hts hg hA
  obtain ⟨tm, hm1, hm2⟩ := st_jx_most hts hg hA
  obtain ⟨a0, ha0⟩ := arr_i (hts _ (jw_t k_28)) (fun C h => by cases h)
  obtain ⟨a1, ha1⟩ := arr_i (hts _ (jw_t k_27)) (fun C h => by cases h)
  obtain ⟨a2, ha2⟩ := arr_o (C := RX2) (hts _ (lt_1 55 rfl))
  obtain ⟨a3, ha3⟩ := arr_o (C := RX4) (hts _ (lt_1 48 rfl))
  refine ⟨((dC, dI), fun k => if k = 0 then a0 else if k = 1 then a1 else if k = 2 then a2 else a3, s.heap.size, fun k => if k = 10 then tl else if k = 11 then tm else b, L, xs), rfl, rfl, rfl, ⟨hK, ?_⟩, trivial, trivial, ⟨hl1, hl2⟩, ⟨hm1, hm2⟩, trivial, trivial, ?_, ⟨?_, ?_⟩, ?_, ?_, hX, hbl, hA b hbl⟩
  · intro k q hq
    match k, hq with
    | 0, hq => cases hq; exact ha0
    | 1, hq => cases hq; exact ha1
    | 2, hq => cases hq; exact ha2
    | 3, hq => cases hq; exact ha3
    | k + 4, hq => simp [jx_tys] at hq
  · intro q hq
    simp only [jx_nm, List.mem_cons, List.not_mem_nil, or_false] at hq
    rcases hq with rfl | rfl | rfl | rfl | rfl | rfl
    · exact va_Nw.of rfl (hts _ (lt_1 19 rfl))
    · exact va_Nw.of rfl (hts _ (lt_1 58 rfl))
    · exact va_Nw.of rfl (hts _ (lt_1 89 rfl))
    · exact va_Nw.of rfl (hts _ (lt_1 108 rfl))
    · exact va_Nw.of rfl (hts _ (lt_2 4 rfl))
    · exact va_Nw.of rfl (hts _ (lt_2 107 rfl))
  · exact va_Nw.of rfl (hts _ (lt_2 34 rfl))
  · exact va_Nw.of rfl (hts _ (lt_2 36 rfl))
  · exact va_AO.of (hts _ (lt_1 55 rfl))
  · exact va_AO.of (hts _ (lt_1 48 rfl))
