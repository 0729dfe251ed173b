/-! ===== what holds of every row ===== -/
def okW (w : Nat) (x : Int32) (T : Nat) : Prop := (w < 7 → okS (nI w) x = true) ∧ (w = 9 → ∃ b, x = bi b) ∧ (w = 10 → ∃ b, x = bi b) ∧ (w = 12 → ∃ l, l ≤ T ∧ x = nI l) ∧ (w = 13 → ∃ u, u ≤ 11000 ∧ x = nI u) ∧ (w = 15 → ∃ K, K ≤ T ∧ x = nI K)
def VP (v : Nat → Int32) (T i : Nat) : Prop := ∀ w, w < 56 → okW w (v (176 + 56 * i + w)) T
def VI (v : Nat → Int32) (k T S N : Nat) : Prop := v 0 = nI k ∧ k ≤ 16 ∧ v 1 = nI T ∧ T ≤ 10000 ∧ (∃ q, q ≤ 3 ∧ v 2 = nI q) ∧ (∃ b, v 3 = bi b) ∧ v 5 = nI S ∧ S ≤ 60 ∧ v 9 = nI N ∧ (∀ i, i < k → VP v T i) ∧ (∃ rk, RK v k rk)
theorem okW_free {w : Nat} {x : Int32} {T : Nat} (h : w = 7 ∨ w = 8 ∨ w = 11 ∨ w = 14 ∨ 16 ≤ w) : okW w x T := ⟨fun _ => by omega, fun _ => by omega, fun _ => by omega, fun _ => by omega, fun _ => by omega, fun _ => by omega⟩
theorem okW_st {w : Nat} {x : Int32} {T : Nat} (hw : w < 7) (h : okS (nI w) x = true) : okW w x T := ⟨fun _ => h, fun _ => by omega, fun _ => by omega, fun _ => by omega, fun _ => by omega, fun _ => by omega⟩
theorem okW_9 {x : Int32} {T : Nat} (h : ∃ b, x = bi b) : okW 9 x T := ⟨fun _ => by omega, fun _ => h, fun _ => by omega, fun _ => by omega, fun _ => by omega, fun _ => by omega⟩
theorem okW_10 {x : Int32} {T : Nat} (h : ∃ b, x = bi b) : okW 10 x T := ⟨fun _ => by omega, fun _ => by omega, fun _ => h, fun _ => by omega, fun _ => by omega, fun _ => by omega⟩
theorem okW_12 {x : Int32} {T l : Nat} (h : l ≤ T) (e : x = nI l) : okW 12 x T := ⟨fun _ => by omega, fun _ => by omega, fun _ => by omega, fun _ => ⟨l, h, e⟩, fun _ => by omega, fun _ => by omega⟩
theorem okW_13 {x : Int32} {T u : Nat} (h : u ≤ 11000) (e : x = nI u) : okW 13 x T := ⟨fun _ => by omega, fun _ => by omega, fun _ => by omega, fun _ => by omega, fun _ => ⟨u, h, e⟩, fun _ => by omega⟩
theorem okW_15 {x : Int32} {T K : Nat} (h : K ≤ T) (e : x = nI K) : okW 15 x T := ⟨fun _ => by omega, fun _ => by omega, fun _ => by omega, fun _ => by omega, fun _ => by omega, fun _ => ⟨K, h, e⟩⟩
theorem okW_mono {w : Nat} {x : Int32} {T T' : Nat} (h : okW w x T) (ht : T ≤ T') : okW w x T' := by
  obtain ⟨a, b, c, d, e, f⟩ := h
  refine ⟨a, b, c, fun z => ?_, e, fun z => ?_⟩
  · obtain ⟨l, h1, h2⟩ := d z
    exact ⟨l, by omega, h2⟩
  · obtain ⟨l, h1, h2⟩ := f z
    exact ⟨l, by omega, h2⟩
theorem VI.z {v : Nat → Int32} {k T S N : Nat} (h : VI v k T S N) : v 0 = nI k := h.1
theorem VI.k16 {v : Nat → Int32} {k T S N : Nat} (h : VI v k T S N) : k ≤ 16 := h.2.1
theorem VI.t {v : Nat → Int32} {k T S N : Nat} (h : VI v k T S N) : v 1 = nI T := h.2.2.1
theorem VI.tl {v : Nat → Int32} {k T S N : Nat} (h : VI v k T S N) : T ≤ 10000 := h.2.2.2.1
theorem VI.m {v : Nat → Int32} {k T S N : Nat} (h : VI v k T S N) : ∃ q, q ≤ 3 ∧ v 2 = nI q := h.2.2.2.2.1
theorem VI.f {v : Nat → Int32} {k T S N : Nat} (h : VI v k T S N) : ∃ b, v 3 = bi b := h.2.2.2.2.2.1
theorem VI.s {v : Nat → Int32} {k T S N : Nat} (h : VI v k T S N) : v 5 = nI S := h.2.2.2.2.2.2.1
theorem VI.sl {v : Nat → Int32} {k T S N : Nat} (h : VI v k T S N) : S ≤ 60 := h.2.2.2.2.2.2.2.1
theorem VI.n {v : Nat → Int32} {k T S N : Nat} (h : VI v k T S N) : v 9 = nI N := h.2.2.2.2.2.2.2.2.1
theorem VI.p {v : Nat → Int32} {k T S N i : Nat} (h : VI v k T S N) (hi : i < k) : VP v T i := h.2.2.2.2.2.2.2.2.2.1 i hi
theorem VI.r {v : Nat → Int32} {k T S N : Nat} (h : VI v k T S N) : ∃ rk, RK v k rk := h.2.2.2.2.2.2.2.2.2.2
theorem VI.st {v : Nat → Int32} {k T S N i w : Nat} (h : VI v k T S N) (hi : i < k) (hw : w < 7) : okS (nI w) (v (176 + 56 * i + w)) = true := (h.p hi w (by omega)).1 hw
theorem VI.al {v : Nat → Int32} {k T S N i : Nat} (h : VI v k T S N) (hi : i < k) : ∃ b, v (176 + 56 * i + 9) = bi b := (h.p hi 9 (by omega)).2.1 rfl
theorem VI.ak {v : Nat → Int32} {k T S N i : Nat} (h : VI v k T S N) (hi : i < k) : ∃ b, v (176 + 56 * i + 10) = bi b := (h.p hi 10 (by omega)).2.2.1 rfl
theorem VI.la {v : Nat → Int32} {k T S N i : Nat} (h : VI v k T S N) (hi : i < k) : ∃ l, l ≤ T ∧ v (176 + 56 * i + 12) = nI l := (h.p hi 12 (by omega)).2.2.2.1 rfl
theorem VI.un {v : Nat → Int32} {k T S N i : Nat} (h : VI v k T S N) (hi : i < k) : ∃ l, l ≤ 11000 ∧ v (176 + 56 * i + 13) = nI l := (h.p hi 13 (by omega)).2.2.2.2.1 rfl
theorem VI.kp {v : Nat → Int32} {k T S N i : Nat} (h : VI v k T S N) (hi : i < k) : ∃ l, l ≤ T ∧ v (176 + 56 * i + 15) = nI l := (h.p hi 15 (by omega)).2.2.2.2.2 rfl
theorem VI.K5 {v : Nat → Int32} {k T S N : Nat} (h : VI v k T S N) : ∀ i, i < k → ∃ K, K ≤ 50000 ∧ v (176 + 56 * i + 15) = nI K := fun i hi => by
  obtain ⟨K, h1, h2⟩ := h.kp hi
  exact ⟨K, by have := h.tl; omega, h2⟩
theorem RK_ext {v v' : Nat → Int32} {k : Nat} (h : ∃ rk, RK v k rk) (e : ∀ i, i < k → v' (176 + 56 * i + 8) = v (176 + 56 * i + 8)) : ∃ rk, RK v' k rk := by
  obtain ⟨rk, h⟩ := h
  refine ⟨rk, fun i hi => ?_⟩
  rw [e i hi]
  exact h i hi
/-- a write into a point's numbers -/
theorem VI.w {v : Nat → Int32} {k T S N a w : Nat} {x : Int32} (h : VI v k T S N) (hw : w < 56) (h8 : w ≠ 8) (hx : okW w x T) : VI (upd v (176 + 56 * a + w) x) k T S N := by
  refine ⟨?_, h.k16, ?_, h.tl, ?_, ?_, ?_, h.sl, ?_, fun i hi w' hw' => ?_, RK_ext h.r fun i _ => pk_un (by omega)⟩
  · rw [pk_un (by omega)]; exact h.z
  · rw [pk_un (by omega)]; exact h.t
  · rw [pk_un (by omega)]; exact h.m
  · rw [pk_un (by omega)]; exact h.f
  · rw [pk_un (by omega)]; exact h.s
  · rw [pk_un (by omega)]; exact h.n
  · by_cases e : i = a ∧ w' = w
    · obtain ⟨rfl, rfl⟩ := e
      rw [pk_us]
      exact hx
    · rw [pk_un (by omega)]
      exact h.p hi w' hw'
/-- a write below the points -/
theorem VI.lo {v : Nat → Int32} {k T S N j : Nat} {x : Int32} (h : VI v k T S N) (hj : j < 176) (h0 : j ≠ 0 ∧ j ≠ 1 ∧ j ≠ 2 ∧ j ≠ 3 ∧ j ≠ 5 ∧ j ≠ 9) : VI (upd v j x) k T S N := by
  refine ⟨?_, h.k16, ?_, h.tl, ?_, ?_, ?_, h.sl, ?_, fun i hi w' hw' => ?_, RK_ext h.r fun i _ => pk_un (by omega)⟩
  · rw [pk_un (by omega)]; exact h.z
  · rw [pk_un (by omega)]; exact h.t
  · rw [pk_un (by omega)]; exact h.m
  · rw [pk_un (by omega)]; exact h.f
  · rw [pk_un (by omega)]; exact h.s
  · rw [pk_un (by omega)]; exact h.n
  · rw [pk_un (by omega)]
    exact h.p hi w' hw'
theorem VI.w2 {v : Nat → Int32} {k T S N q : Nat} {x : Int32} (h : VI v k T S N) (hq : q ≤ 3) (hx : x = nI q) : VI (upd v 2 x) k T S N := by
  refine ⟨?_, h.k16, ?_, h.tl, ⟨q, hq, by rw [pk_us]; exact hx⟩, ?_, ?_, h.sl, ?_, fun i hi w' hw' => ?_, RK_ext h.r fun i _ => pk_un (by omega)⟩
  · rw [pk_un (by omega)]; exact h.z
  · rw [pk_un (by omega)]; exact h.t
  · rw [pk_un (by omega)]; exact h.f
  · rw [pk_un (by omega)]; exact h.s
  · rw [pk_un (by omega)]; exact h.n
  · rw [pk_un (by omega)]
    exact h.p hi w' hw'
theorem VI.w3 {v : Nat → Int32} {k T S N : Nat} {x : Int32} (h : VI v k T S N) (hx : ∃ b, x = bi b) : VI (upd v 3 x) k T S N := by
  refine ⟨?_, h.k16, ?_, h.tl, ?_, by rw [pk_us]; exact hx, ?_, h.sl, ?_, fun i hi w' hw' => ?_, RK_ext h.r fun i _ => pk_un (by omega)⟩
  · rw [pk_un (by omega)]; exact h.z
  · rw [pk_un (by omega)]; exact h.t
  · rw [pk_un (by omega)]; exact h.m
  · rw [pk_un (by omega)]; exact h.s
  · rw [pk_un (by omega)]; exact h.n
  · rw [pk_un (by omega)]
    exact h.p hi w' hw'
theorem VI.w5 {v : Nat → Int32} {k T S N S' : Nat} {x : Int32} (h : VI v k T S N) (hs : S' ≤ 60) (hx : x = nI S') : VI (upd v 5 x) k T S' N := by
  refine ⟨?_, h.k16, ?_, h.tl, ?_, ?_, by rw [pk_us]; exact hx, hs, ?_, fun i hi w' hw' => ?_, RK_ext h.r fun i _ => pk_un (by omega)⟩
  · rw [pk_un (by omega)]; exact h.z
  · rw [pk_un (by omega)]; exact h.t
  · rw [pk_un (by omega)]; exact h.m
  · rw [pk_un (by omega)]; exact h.f
  · rw [pk_un (by omega)]; exact h.n
  · rw [pk_un (by omega)]
    exact h.p hi w' hw'
theorem VI.w9 {v : Nat → Int32} {k T S N N' : Nat} {x : Int32} (h : VI v k T S N) (hx : x = nI N') : VI (upd v 9 x) k T S N' := by
  refine ⟨?_, h.k16, ?_, h.tl, ?_, ?_, ?_, h.sl, by rw [pk_us]; exact hx, fun i hi w' hw' => ?_, RK_ext h.r fun i _ => pk_un (by omega)⟩
  · rw [pk_un (by omega)]; exact h.z
  · rw [pk_un (by omega)]; exact h.t
  · rw [pk_un (by omega)]; exact h.m
  · rw [pk_un (by omega)]; exact h.f
  · rw [pk_un (by omega)]; exact h.s
  · rw [pk_un (by omega)]
    exact h.p hi w' hw'
theorem VI.w1 {v : Nat → Int32} {k T S N T' : Nat} {x : Int32} (h : VI v k T S N) (ht : T ≤ T') (ht1 : T' ≤ 10000) (hx : x = nI T') : VI (upd v 1 x) k T' S N := by
  refine ⟨?_, h.k16, by rw [pk_us]; exact hx, ht1, ?_, ?_, ?_, h.sl, ?_, fun i hi w' hw' => ?_, RK_ext h.r fun i _ => pk_un (by omega)⟩
  · rw [pk_un (by omega)]; exact h.z
  · rw [pk_un (by omega)]; exact h.m
  · rw [pk_un (by omega)]; exact h.f
  · rw [pk_un (by omega)]; exact h.s
  · rw [pk_un (by omega)]; exact h.n
  · rw [pk_un (by omega)]
    exact okW_mono (h.p hi w' hw') ht
theorem VI.hap {v : Nat → Int32} {k T S N : Nat} {w p : Int32} (h : VI v k T S N) (hb : N < 2147483000) : VI (sHap v w p) k T S (N + 1) := by
  have h30 : N % 30 < 30 := Nat.mod_lt _ (by decide)
  unfold sHap
  rw [evN_of h.n hb, sHapN]
  exact (((h.lo (by omega) (by omega)).lo (by omega) (by omega)).lo (by omega) (by omega)).w9 rfl
theorem VI.val {v : Nat → Int32} {k T S N : Nat} {x y : Int32} (h : VI v k T S N) : VI (fVal v x y).2 k T S N := by
  unfold fVal
  split
  · split
    · exact h.w (by omega) (by omega) (okW_free (by omega))
    · exact h
  · exact h
theorem VI.mod {v : Nat → Int32} {k T S N : Nat} {x : Int32} (h : VI v k T S N) : VI (fMod v x).2 k T S N := by
  unfold fMod
  split
  · rename_i hx
    obtain ⟨q, h1, h2, h3⟩ := in_nat hx (by decide) (by decide)
    exact h.w2 h2 h3
  · exact h
theorem VI.ack {v : Nat → Int32} {k T S N : Nat} {x : Int32} (h : VI v k T S N) (hb : N < 2147483000) : ∃ N', N ≤ N' ∧ N' ≤ N + 1 ∧ VI (fAck v x).2 k T S N' := by
  unfold fAck
  split
  · split
    · exact ⟨N, by omega, by omega, h⟩
    · exact ⟨N + 1, by omega, by omega, (((h.w (by omega) (by omega) (okW_10 ⟨true, rfl⟩)).lo (by omega) (by omega)).lo (by omega) (by omega)).hap hb⟩
  · exact ⟨N, by omega, by omega, h⟩
theorem VI.shv {v : Nat → Int32} {k T S N : Nat} {x y : Int32} (h : VI v k T S N) (hb : N < 2147483000) : ∃ N', N ≤ N' ∧ N' ≤ N + 1 ∧ VI (fShv v x y).2 k T S N' := by
  unfold fShv
  split
  · split
    · rename_i hy
      split
      · exact ⟨N, by omega, by omega, h⟩
      · obtain ⟨q, h1, h2, h3⟩ := in_nat hy (by decide) (by decide)
        have := h.tl
        exact ⟨N + 1, by omega, by omega, (h.w (by omega) (by omega) (okW_13 (u := T + q) (by omega) (by rw [h.t, h3, nI_add]))).hap hb⟩
    · exact ⟨N, by omega, by omega, h⟩
  · exact ⟨N, by omega, by omega, h⟩
theorem VI.hlo {v : Nat → Int32} {k T S N i : Nat} (h : VI v k T S N) (hb : N < 2147483000) : ∃ N', N ≤ N' ∧ N' ≤ N + 1 ∧ VI (sLook v T i) k T S N' := by
  have h64 : T % 64 < 64 := Nat.mod_lt _ (by decide)
  unfold sLook
  split
  · split
    · exact ⟨N, by omega, by omega, h.w (by omega) (by omega) (okW_free (by omega))⟩
    · exact ⟨N + 1, by omega, by omega, ((((((((h.w (by omega) (by omega) (okW_free (by omega))).w (by omega) (by omega) (okW_free (by omega))).w (by omega) (by omega) (okW_9 ⟨true, rfl⟩)).w (by omega) (by omega) (okW_10 ⟨false, rfl⟩)).w (by omega) (by omega) (okW_12 (Nat.le_refl _) rfl)).w (by omega) (by omega) (okW_free (by omega))).lo (by omega) (by omega)).lo (by omega) (by omega)).hap hb⟩
  · split
    · exact ⟨N, by omega, by omega, h.w (by omega) (by omega) (okW_free (by omega))⟩
    · exact ⟨N + 1, by omega, by omega, (((h.w (by omega) (by omega) (okW_free (by omega))).w (by omega) (by omega) (okW_free (by omega))).w (by omega) (by omega) (okW_9 ⟨false, rfl⟩)).hap hb⟩
theorem VI.hlk {v : Nat → Int32} {k T S N : Nat} (h : VI v k T S N) (hb : N + 20 < 2147483000) : ∀ i, i ≤ 16 → ∃ N', N ≤ N' ∧ N' ≤ N + i ∧ VI (lookA v T i) k T S N' := by
  intro i
  induction i with
  | zero => intro _; exact ⟨N, by omega, by omega, h⟩
  | succ i ih =>
    intro hi
    obtain ⟨N1, a, b, c⟩ := ih (by omega)
    obtain ⟨N2, a', b', c'⟩ := VI.hlo (i := i) c (by omega)
    exact ⟨N2, by omega, by omega, c'⟩
theorem VI.hsh {v : Nat → Int32} {k T S N : Nat} (h : VI v k T S N) (hb : N + 20 < 2147483000) : ∀ i, i ≤ 16 → ∃ N', N ≤ N' ∧ N' ≤ N + i ∧ VI (shA v T i) k T S N' := by
  intro i
  induction i with
  | zero => intro _; exact ⟨N, by omega, by omega, h⟩
  | succ i ih =>
    intro hi
    obtain ⟨N1, a, b, c⟩ := ih (by omega)
    show ∃ N', N ≤ N' ∧ N' ≤ N + (i + 1) ∧ VI (shA v T (i + 1)) k T S N'
    rw [shA]
    split
    · exact ⟨N1, by omega, by omega, c⟩
    · split
      · exact ⟨N1, by omega, by omega, c⟩
      · exact ⟨N1 + 1, by omega, by omega, (c.w (by omega) (by omega) (okW_13 (u := 0) (by omega) rfl)).hap (by omega)⟩
theorem VI.hfl {v : Nat → Int32} {k T S N : Nat} (h : VI v k T S N) (hb : N < 2147483000) : ∃ N', N ≤ N' ∧ N' ≤ N + 1 ∧ VI (fld v T S) k T S N' := by
  unfold fld
  split
  · split
    · exact ⟨N, by omega, by omega, h⟩
    · exact ⟨N + 1, by omega, by omega, ((h.w3 ⟨true, rfl⟩).lo (by omega) (by omega)).hap hb⟩
  · split
    · split
      · exact ⟨N, by omega, by omega, h⟩
      · exact ⟨N + 1, by omega, by omega, (h.w3 ⟨false, rfl⟩).hap hb⟩
    · exact ⟨N, by omega, by omega, h⟩
theorem VI.hpt {v : Nat → Int32} {k T S N : Nat} (h : VI v k T S N) (hK : ∀ i, i < k → ∃ K, K + 1 ≤ T ∧ v (176 + 56 * i + 15) = nI K) : ∀ i, i ≤ k → VI (ptA v i) k T S N := by
  intro i
  induction i with
  | zero => intro _; exact h
  | succ i ih =>
    intro hi
    have c := ih (by omega)
    obtain ⟨K, h1, h2⟩ := hK i (by omega)
    have := h.tl
    have hk : kpt v i = K := by unfold kpt; rw [h2, nI_clamp (by omega)]
    have h40 : kpt v i % 40 < 40 := Nat.mod_lt _ (by decide)
    show VI (ptA v (i + 1)) k T S N
    rw [ptA]
    exact (c.w (by omega) (by omega) (okW_free (by omega))).w (by omega) (by omega) (okW_15 (K := K + 1) h1 (by rw [hk]))
theorem VI.once {v : Nat → Int32} {k T S N : Nat} (h : VI v k T S N) (hT : T + 1 ≤ 10000) (hb : N + 100 < 2147483000) : ∃ N', N ≤ N' ∧ N' ≤ N + 33 ∧ VI (sTick v k T S) k (T + 1) S N' := by
  have h64 : (T + 1) % 64 < 64 := Nat.mod_lt _ (by decide)
  have h16 := h.k16
  have a1 : VI (tk0 v T) k (T + 1) S N := (h.w1 (by omega) hT rfl).lo (by omega) (by omega)
  obtain ⟨N1, b1, b2, a2⟩ := a1.hlk (by omega) k h16
  obtain ⟨N2, b3, b4, a3⟩ := a2.hsh (by omega) k h16
  obtain ⟨N3, b5, b6, a4⟩ := a3.hfl (by omega)
  refine ⟨N3, by omega, by omega, a4.hpt (fun i hi => ?_) k (Nat.le_refl _)⟩
  obtain ⟨K, h1, h2⟩ := h.kp hi
  exact ⟨K, by omega, by rw [fld_o (by omega) (by omega), shA_f (by omega) (by omega), lookA_f (by omega) (by omega), tk0_o (by omega) (by omega), h2]⟩
theorem VI.htk {v : Nat → Int32} {k T S N : Nat} (h : VI v k T S N) : ∀ i, i ≤ 100 → T + i ≤ 10000 → N + 5000 < 2147483000 → ∃ N', N ≤ N' ∧ N' ≤ N + 33 * i ∧ VI (tkF v k T S i) k (T + i) S N' := by
  intro i
  induction i with
  | zero => intro _ _ _; exact ⟨N, by omega, by omega, h⟩
  | succ i ih =>
    intro hi hT hb
    obtain ⟨N1, a, b, c⟩ := ih (by omega) (by omega) hb
    obtain ⟨N2, a', b', c'⟩ := c.once (by omega) (by omega)
    exact ⟨N2, by omega, by omega, c'⟩
theorem VI.tks {v : Nat → Int32} {k T S N : Nat} {x : Int32} (h : VI v k T S N) (hb : N + 5000 < 2147483000) : ∃ T' N', N ≤ N' ∧ N' ≤ N + 3300 ∧ VI (fTks v k T S x).2 k T' S N' := by
  unfold fTks
  split
  · rename_i hx
    obtain ⟨q, h1, h2, h3⟩ := in_nat hx (by decide) (by decide)
    split
    · rename_i ht
      rw [h3, nI_clamp (by omega)] at ht ⊢
      obtain ⟨N1, a, b, c⟩ := h.htk q h2 ht hb
      exact ⟨T + q, N1, a, by omega, c⟩
    · exact ⟨T, N, by omega, by omega, h⟩
  · exact ⟨T, N, by omega, by omega, h⟩

