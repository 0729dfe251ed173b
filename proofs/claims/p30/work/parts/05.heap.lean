/-! ===== the functional heap: addresses from a base on, each with a kind; ints and references by address and place ===== -/
abbrev jx_K : Type := Nat → Nat × Nat
abbrev jx_R : Type := Nat → Nat → Option Nat
abbrev jx_I : Type := Nat → Nat → Int32
/-- the fixed things of a run: class numbers, array classes (0 int, 1 char, 2 points, 3 states), the base, where the constants lie (0..4 the texts, 5..9 their bytes, 10, 11 the tables, 12 the script), the script's length and contents -/
abbrev jx_E : Type := va_G × (Nat → ClassId) × Nat × (Nat → Nat) × Nat × (Nat → Int32)
def jx_tys (E : jx_E) : List (ClassId × FieldType) := [(E.2.1 0, .int), (E.2.1 1, .char), (E.2.1 2, .object RX2), (E.2.1 3, .object RX4)]
def jx_lay : Nat → List Bool
  | 0 => [true, false, false, false, false, false]
  | 1 => [true, true, true, false]
  | 2 => [true, true, false, false, false, false, false, false, false, false, false]
  | 3 => [true, true, true, true, false, false, false, false]
  | 4 => [true, true, true, false, false, false, false, false, false]
  | 5 => [true, true, true, false, true, true]
  | 6 => [true, true, true, false, true, false, true, false, false, false, true]
  | _ => []
def jx_fs : List Bool → (Nat → Option Nat) → (Nat → Int32) → Nat → List Value
  | [], _, _, _ => []
  | true :: l, r, i, k => va_rf (r k) :: jx_fs l r i (k + 1)
  | false :: l, r, i, k => .int (i k) :: jx_fs l r i (k + 1)
def jx_cell (E : jx_E) (q : Nat × Nat) (r : Nat → Option Nat) (i : Nat → Int32) : va_E :=
  if q.1 = 7 then .inl (E.2.1 0, q.2, .inl i)
  else if q.1 = 8 then .inl (E.2.1 1, q.2, .inl i)
  else if q.1 = 9 then .inl (E.2.1 2, q.2, .inr (.inr (.inr (.inr r))))
  else if q.1 = 10 then .inl (E.2.1 3, q.2, .inr (.inr (.inr (.inr r))))
  else .inr (q.1, jx_fs (jx_lay q.1) r i 0)
def jx_pf (E : jx_E) (kd : jx_K) (R : jx_R) (I : jx_I) : Nat → va_E := fun a => jx_cell E (kd a) (R a) (I a)
def jx_A (E : jx_E) : Nat → Prop := fun q => E.2.2.1 ≤ q
def jx_Wd (E : jx_E) (n : Nat) (kd : jx_K) (R : jx_R) (I : jx_I) (H : Heap) : Prop :=
  (∀ a, (kd a).1 ≤ 10 → E.2.2.1 ≤ a ∧ a < E.2.2.1 + n) ∧ va_P E.1 vwCl ([] ++ va_pl (List.range' E.2.2.1 n) (jx_pf E kd R I)) H
def jx_up (I : jx_I) (a k : Nat) (x : Int32) : jx_I := fun b => if b = a then upd (I b) k x else I b
def jx_upR (R : jx_R) (a k : Nat) (x : Option Nat) : jx_R := fun b => if b = a then va_up (R b) k x else R b
theorem jx_fs_len : ∀ (l : List Bool) (r : Nat → Option Nat) (i : Nat → Int32) (k : Nat), (jx_fs l r i k).length = l.length := by
  intro l
  induction l with
  | nil => intro r i k; rfl
  | cons b l ih => intro r i k; cases b <;> simp [jx_fs, ih]
theorem jx_fs_r : ∀ (l : List Bool) (r : Nat → Option Nat) (i : Nat → Int32) (j k : Nat), l[k]? = some true → (jx_fs l r i j)[k]? = some (va_rf (r (j + k))) := by
  intro l
  induction l with
  | nil => intro r i j k h; simp at h
  | cons b l ih =>
    intro r i j k h
    cases k with
    | zero =>
      simp at h
      subst h
      simp [jx_fs]
    | succ k =>
      simp at h
      have := ih r i (j + 1) k h
      have e : j + 1 + k = j + (k + 1) := by omega
      cases b <;> simp [jx_fs, this, e]
theorem jx_fs_i : ∀ (l : List Bool) (r : Nat → Option Nat) (i : Nat → Int32) (j k : Nat), l[k]? = some false → (jx_fs l r i j)[k]? = some (.int (i (j + k))) := by
  intro l
  induction l with
  | nil => intro r i j k h; simp at h
  | cons b l ih =>
    intro r i j k h
    cases k with
    | zero =>
      simp at h
      subst h
      simp [jx_fs]
    | succ k =>
      simp at h
      have := ih r i (j + 1) k h
      have e : j + 1 + k = j + (k + 1) := by omega
      cases b <;> simp [jx_fs, this, e]
theorem jx_fs_ext : ∀ (l : List Bool) (r r' : Nat → Option Nat) (i i' : Nat → Int32) (j : Nat), (∀ k, j ≤ k → r' k = r k) → (∀ k, j ≤ k → i' k = i k) → jx_fs l r' i' j = jx_fs l r i j := by
  intro l
  induction l with
  | nil => intro r r' i i' j _ _; rfl
  | cons b l ih =>
    intro r r' i i' j h1 h2
    have e := ih r r' i i' (j + 1) (fun k hk => h1 k (by omega)) (fun k hk => h2 k (by omega))
    cases b
    · simp only [jx_fs, e, h2 j (Nat.le_refl j)]
    · simp only [jx_fs, e, h1 j (Nat.le_refl j)]
theorem jx_fs_setI : ∀ (l : List Bool) (r : Nat → Option Nat) (i : Nat → Int32) (j k : Nat) (x : Int32), l[k]? = some false → (jx_fs l r i j).set k (.int x) = jx_fs l r (upd i (j + k) x) j := by
  intro l
  induction l with
  | nil => intro r i j k x h; simp at h
  | cons b l ih =>
    intro r i j k x h
    cases k with
    | zero =>
      simp at h
      subst h
      simp only [jx_fs, List.set_cons_zero]
      rw [jx_fs_ext l r r i (upd i (j + 0) x) (j + 1) (fun _ _ => rfl) (fun k hk => by simp [upd]; omega)]
      simp [upd]
    | succ k =>
      simp at h
      have := ih r i (j + 1) k x h
      have e : j + 1 + k = j + (k + 1) := by omega
      rw [e] at this
      cases b
      · simp only [jx_fs, List.set_cons_succ, this]
        congr 2
        simp [upd]
      · simp only [jx_fs, List.set_cons_succ, this]
theorem jx_fs_setR : ∀ (l : List Bool) (r : Nat → Option Nat) (i : Nat → Int32) (j k : Nat) (x : Option Nat), l[k]? = some true → (jx_fs l r i j).set k (va_rf x) = jx_fs l (va_up r (j + k) x) i j := by
  intro l
  induction l with
  | nil => intro r i j k x h; simp at h
  | cons b l ih =>
    intro r i j k x h
    cases k with
    | zero =>
      simp at h
      subst h
      simp only [jx_fs, List.set_cons_zero]
      rw [jx_fs_ext l r (va_up r (j + 0) x) i i (j + 1) (fun k hk => by simp [va_up]; omega) (fun _ _ => rfl)]
      simp [va_up]
    | succ k =>
      simp at h
      have := ih r i (j + 1) k x h
      have e : j + 1 + k = j + (k + 1) := by omega
      rw [e] at this
      cases b
      · simp only [jx_fs, List.set_cons_succ, this]
      · simp only [jx_fs, List.set_cons_succ, this]
        congr 2
        simp [va_up]
theorem jx_range {B n a : Nat} : a ∈ List.range' B n ↔ B ≤ a ∧ a < B + n := by
  rw [List.mem_range'_1]
theorem jx_at {E : jx_E} {n : Nat} {kd : jx_K} {R : jx_R} {I : jx_I} {H : Heap} (h : jx_Wd E n kd R I H) {a : Nat} (ha : (kd a).1 ≤ 10) : ∃ k : Nat, ([] ++ va_pl (List.range' E.2.2.1 n) (jx_pf E kd R I))[k]? = some (a, jx_pf E kd R I a) :=
  va_pl_get (jx_range.mpr (h.1 a ha))
theorem jx_rg {B n i a : Nat} (h : (List.range' B n)[i]? = some a) : a = B + i := by
  obtain ⟨h1, h2⟩ := List.getElem?_eq_some_iff.mp h
  rw [List.getElem_range'] at h2
  omega
theorem jx_plg {B n i : Nat} {f : Nat → va_E} {q : Nat × va_E} (h : ([] ++ va_pl (List.range' B n) f)[i]? = some q) : q.1 = B + i := by
  simp only [List.nil_append, va_pl, List.getElem?_map] at h
  cases hb : (List.range' B n)[i]? with
  | none => rw [hb] at h; simp at h
  | some a =>
    rw [hb] at h
    simp at h
    rw [← h]
    exact jx_rg hb
theorem jx_D (E : jx_E) (n : Nat) (f : Nat → va_E) : va_D (jx_A E) ([] ++ va_pl (List.range' E.2.2.1 n) f) := by
  refine ⟨fun i j p q hi hj hpq => ?_, fun k q hk => ?_⟩
  · have h1 := jx_plg hi
    have h2 := jx_plg hj
    omega
  · have h1 := jx_plg hk
    show E.2.2.1 ≤ q.1
    omega
theorem jx_Wd_set {E : jx_E} {n : Nat} {kd : jx_K} {R : jx_R} {I : jx_I} {H H1 : Heap} (h : jx_Wd E n kd R I H) {a k : Nat} {e : va_E} (ha : (kd a).1 ≤ 10) (hk : ([] ++ va_pl (List.range' E.2.2.1 n) (jx_pf E kd R I))[k]? = some (a, jx_pf E kd R I a)) (hP : va_P E.1 vwCl (([] ++ va_pl (List.range' E.2.2.1 n) (jx_pf E kd R I)).set k (a, e)) H1) {R' : jx_R} {I' : jx_I} (he : ∀ b, va_up (jx_pf E kd R I) a e b = jx_pf E kd R' I' b) : jx_Wd E n kd R' I' H1 := by
  refine ⟨h.1, ?_⟩
  rw [va_pl_set (jx_D E n _) (jx_range.mpr (h.1 a ha)) hk] at hP
  rw [va_pl_congr he] at hP
  exact hP
theorem jx_pf_arrI {E : jx_E} {kd : jx_K} {R : jx_R} {I : jx_I} {a m : Nat} (h : kd a = (7, m)) : jx_pf E kd R I a = .inl (E.2.1 0, m, .inl (I a)) := by simp [jx_pf, jx_cell, h]
theorem jx_pf_arrC {E : jx_E} {kd : jx_K} {R : jx_R} {I : jx_I} {a m : Nat} (h : kd a = (8, m)) : jx_pf E kd R I a = .inl (E.2.1 1, m, .inl (I a)) := by simp [jx_pf, jx_cell, h]
theorem jx_pf_arrP {E : jx_E} {kd : jx_K} {R : jx_R} {I : jx_I} {a m : Nat} (h : kd a = (9, m)) : jx_pf E kd R I a = .inl (E.2.1 2, m, .inr (.inr (.inr (.inr (R a))))) := by simp [jx_pf, jx_cell, h]
theorem jx_pf_arrS {E : jx_E} {kd : jx_K} {R : jx_R} {I : jx_I} {a m : Nat} (h : kd a = (10, m)) : jx_pf E kd R I a = .inl (E.2.1 3, m, .inr (.inr (.inr (.inr (R a))))) := by simp [jx_pf, jx_cell, h]
theorem jx_pf_obj {E : jx_E} {kd : jx_K} {R : jx_R} {I : jx_I} {a c m : Nat} (hc : c < 7) (h : kd a = (c, m)) : jx_pf E kd R I a = .inr (c, jx_fs (jx_lay c) (R a) (I a) 0) := by
  have h1 : (kd a).1 = c := by rw [h]
  unfold jx_pf jx_cell
  rw [h1, if_neg (by omega), if_neg (by omega), if_neg (by omega), if_neg (by omega)]
theorem jx_pf_upI {E : jx_E} {kd : jx_K} {R : jx_R} {I : jx_I} {a k : Nat} {x : Int32} {e : va_E} (he : jx_cell E (kd a) (R a) (upd (I a) k x) = e) : ∀ b, va_up (jx_pf E kd R I) a e b = jx_pf E kd R (jx_up I a k x) b := by
  intro b
  by_cases hb : b = a
  · subst hb
    simp [va_up, jx_pf, jx_up, he]
  · simp [va_up, jx_pf, jx_up, hb]
theorem jx_pf_upR {E : jx_E} {kd : jx_K} {R : jx_R} {I : jx_I} {a k : Nat} {x : Option Nat} {e : va_E} (he : jx_cell E (kd a) (va_up (R a) k x) (I a) = e) : ∀ b, va_up (jx_pf E kd R I) a e b = jx_pf E kd (jx_upR R a k x) I b := by
  intro b
  by_cases hb : b = a
  · subst hb
    simp [va_up, jx_pf, jx_upR, he]
  · simp [va_up, jx_pf, jx_upR, hb]
/-- a new cell at the end -/
theorem jx_Wd_push {E : jx_E} {n : Nat} {kd : jx_K} {R : jx_R} {I : jx_I} {H H1 : Heap} (h : jx_Wd E n kd R I H) {q : Nat × Nat} {e : va_E} (hP : va_P E.1 vwCl (([] ++ va_pl (List.range' E.2.2.1 n) (jx_pf E kd R I)) ++ [(E.2.2.1 + n, e)]) H1) (he : jx_cell E q (fun _ => none) (fun _ => 0) = e) :
    jx_Wd E (n + 1) (va_up kd (E.2.2.1 + n) q) (va_up R (E.2.2.1 + n) (fun _ => none)) (va_up I (E.2.2.1 + n) (fun _ => 0)) H1 := by
  refine ⟨fun a ha => ?_, ?_⟩
  · by_cases hb : a = E.2.2.1 + n
    · omega
    · rw [va_up_ne _ _ hb] at ha
      have := h.1 a ha
      omega
  · rw [List.append_assoc, va_pl_push (by rw [jx_range]; omega), ← List.range'_1_concat] at hP
    refine (va_pl_congr (L := List.range' E.2.2.1 (n + 1)) (f := va_up (jx_pf E kd R I) (E.2.2.1 + n) e) (g := jx_pf E (va_up kd (E.2.2.1 + n) q) (va_up R (E.2.2.1 + n) (fun _ => none)) (va_up I (E.2.2.1 + n) (fun _ => 0))) (fun b => ?_)) ▸ hP
    by_cases hb : b = E.2.2.1 + n
    · subst hb
      simp [va_up, jx_pf, he]
    · simp [va_up, jx_pf, hb]
theorem jx_size {E : jx_E} {n cells slots : Nat} {kd : jx_K} {R : jx_R} {I : jx_I} {H : Heap} {p : Program} {l : Launch} {e : Env} {Rm : Room} {s T : State} {m : MethodId} {args : Array Value} {below : List Frame} {meth : Method} {c : Code} {locs : List Loc} (X : Stand p l e Rm s m args below meth c T locs cells slots) (hT : T.heap = H) (hB : E.2.2.1 ≤ s.heap.size) (hN : s.heap.size + cells = E.2.2.1 + n) (hW : jx_Wd E n kd R I H) : H.size = E.2.2.1 + n := by
  have h1 := X.same.2.1
  have h2 := X.same.2.2.1
  have e1 : (T.setVm s.vm).heap = H := hT
  rw [e1] at h1 h2
  by_cases h0 : n = 0
  · have : s.heap.size ≤ H.size := h1
    have : H.size ≤ s.heap.size + cells := h2
    have hB : n = 0 := h0
    omega
  · have := va_pl_lt hW.2 (a := E.2.2.1 + (n - 1)) (jx_range.mpr (by omega))
    omega
