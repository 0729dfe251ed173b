/-! ===== p30: what the law itself calls in its loop ===== -/
theorem fSet_lo {v : Nat → Int32} {i s j : Nat} {y : Int32} (hi : i < 16) (hs : s < 7) (hj : j < 9) : fSet v (nI i) (nI s) y j = v j := by
  unfold fSet
  rw [nI_clamp (show i < 2147483648 from by omega), nI_clamp (show s < 2147483648 from by omega)]
  split
  · split
    · exact pk_un (by omega)
    · rw [sHap_o (by omega), pk_un (by omega), pk_un (by omega)]
  · exact pk_un (by omega)
theorem p_sv {E : jx_E} {l : Launch} {n : Nat} {kd : jx_K} {R : jx_R} {I : jx_I} {d : Nat} {v p : Nat → Int32} {q B k T S N i : Nat} {y : Int32} (hD : DK kd R I d v p q B) (hV : VI v k T S N) (hN : N ≤ B) (hB : B + 70000 < 2147483000) (hP : PI v k T) (hi : i < k) (hy : okV y = true) : jx_CiR E l yX5_setValue cX5_setValue 3 (some .int) 4 n kd R (I) [.ref d, .int (nI i), .int y] (fun r R' I' => r = v (176 + 56 * i + 7) ∧ LZ kd R' I' d k T (B + 60000)) := by
  have h16 := hV.k16
  have hX := hD.vx hV hN (by omega)
  have e := fVal_s hV.z h16 hi hy
  refine (p_setValues (a := v (176 + 56 * i + 7)) (w := upd v (176 + 56 * i + 7) y) hD hV hN hB (congrArg Prod.fst e) (ie_okV (hX.1 i hi)) (congrArg Prod.snd e)).post (fun r n' kd' R' I' hq => ?_)
  obtain ⟨h1, h2, x', h3, h4, hD1⟩ := hq
  obtain ⟨hV1, hN1, _⟩ := hD1.to9 ((pk_un (by omega)).trans hV.z) h16 ((pk_un (by omega)).trans hV.t) hV.tl ((pk_un (by omega)).trans hV.s) hV.sl ((pk_un (by omega)).trans hV.n) (by omega) (by omega)
  exact ⟨h1, h2, x', h3, h4, _, _, _, S, N, hD1, hV1, hN1, hP.u (by omega) (by omega)⟩
theorem p_ss {E : jx_E} {l : Launch} {n : Nat} {kd : jx_K} {R : jx_R} {I : jx_I} {d : Nat} {v p : Nat → Int32} {q B k T S N s : Nat} (hD : DK kd R I d v p q B) (hV : VI v k T S N) (hN : N ≤ B) (hB : B + 70000 < 2147483000) (hP : PI v k T) (hs : s ≤ 3) : jx_CiR E l yX5_setState cX5_setState 2 (some .int) 4 n kd R (I) [.ref d, .int (nI s)] (fun r R' I' => r = v 2 ∧ LZ kd R' I' d k T (B + 60000)) := by
  have h16 := hV.k16
  have e : fMod v (nI s) = (v 2, upd v 2 (nI s)) := if_pos (nI_in16 hs (by omega))
  have ha : -20001 < v 2 := by
    obtain ⟨m, hm, em⟩ := hV.m
    rw [em]
    exact ie_n (by omega)
  refine (p_setStates (a := v 2) (w := upd v 2 (nI s)) hD hV hN hB (congrArg Prod.fst e) ha (congrArg Prod.snd e)).post (fun r n' kd' R' I' hq => ?_)
  obtain ⟨h1, h2, x', h3, h4, hD1⟩ := hq
  obtain ⟨hV1, hN1, _⟩ := hD1.to9 ((pk_un (by omega)).trans hV.z) h16 ((pk_un (by omega)).trans hV.t) hV.tl ((pk_un (by omega)).trans hV.s) hV.sl ((pk_un (by omega)).trans hV.n) (by omega) (by omega)
  exact ⟨h1, h2, x', h3, h4, _, _, _, S, N, hD1, hV1, hN1, hP.lo (by omega) (by omega)⟩
/-- a priority is set: with its event, if the point was shelved and the priority is 1 now -/
theorem p_sp {E : jx_E} {l : Launch} {n : Nat} {kd : jx_K} {R : jx_R} {I : jx_I} {d : Nat} {v p : Nat → Int32} {q B k T S N i z : Nat} (hD : DK kd R I d v p q B) (hV : VI v k T S N) (hN : N ≤ B) (hB : B + 70000 < 2147483000) (hP : PI v k T) (hi : i < k) (hz1 : 1 ≤ z) (hz2 : z ≤ 4) : jx_CiR E l yX5_set cX5_set 4 (some .int) 4 n kd R (I) [.ref d, .int (nI i), .int (nI 5), .int (nI z)] (fun r R' I' => r = v (176 + 56 * i + 5) ∧ ∃ w p' q' N2, DK kd R' I' d w p' q' (B + 60000) ∧ VI w k T S N2 ∧ N2 ≤ B + 60000 ∧ PI w k T ∧ w (176 + 56 * i + 5) = nI z ∧ ((v (176 + 56 * i + 13) ≤ 0 ∧ N2 = N) ∨ (¬ v (176 + 56 * i + 13) ≤ 0 ∧ ¬ nI z = nI 1 ∧ N2 = N) ∨ (¬ v (176 + 56 * i + 13) ≤ 0 ∧ nI z = nI 1 ∧ N2 = N + 1))) := by
  have h16 := hV.k16
  have c : okP v (nI i) = true ∧ okS (nI 5) (nI z) = true := ⟨okP_of hV.z h16 hi, by rw [okS_5]; exact in_ab hz1 hz2 (by omega)⟩
  have ha : -20001 < v (176 + 56 * i + 5) := by
    obtain ⟨m, _, hm, em⟩ := hV.pr hi
    rw [em]
    exact ie_n (by omega)
  refine (p_sets hD hV hN hB (a := v (176 + 56 * i + 5)) (w := fSet v (nI i) (nI 5) (nI z)) ((if_pos c).trans (by rw [nI_clamp (show i < 2147483648 from by omega), nI_clamp (show 5 < 2147483648 from by omega)])) ha (if_pos c)).post (fun r n' kd' R' I' hq => ?_)
  obtain ⟨h1, h2, x', h3, h4, hD1⟩ := hq
  have h5 : fSet v (nI i) (nI 5) (nI z) (176 + 56 * i + 5) = nI z := by
    unfold fSet
    rw [nI_clamp (show i < 2147483648 from by omega), nI_clamp (show 5 < 2147483648 from by omega)]
    split
    · split
      · exact pk_us
      · rw [sHap_o (by omega), pk_un (by omega), pk_us]
    · exact pk_us
  have h9 : (v (176 + 56 * i + 13) ≤ 0 ∧ fSet v (nI i) (nI 5) (nI z) 9 = nI N) ∨ (¬ v (176 + 56 * i + 13) ≤ 0 ∧ ¬ nI z = nI 1 ∧ fSet v (nI i) (nI 5) (nI z) 9 = nI N) ∨ (¬ v (176 + 56 * i + 13) ≤ 0 ∧ nI z = nI 1 ∧ fSet v (nI i) (nI 5) (nI z) 9 = nI (N + 1)) := by
    unfold fSet
    rw [nI_clamp (show i < 2147483648 from by omega), nI_clamp (show 5 < 2147483648 from by omega), pk_us, pk_un (by omega)]
    by_cases c1 : v (176 + 56 * i + 13) ≤ 0
    · refine Or.inl ⟨c1, ?_⟩
      split
      · exact (pk_un (by omega)).trans hV.n
      · exact (pk_un (by omega)).trans hV.n
    · by_cases c2 : nI z = nI 1
      · refine Or.inr (Or.inr ⟨c1, c2, ?_⟩)
        rw [if_pos c2, if_neg c1]
        exact sHap_9 ((pk_un (by omega)).trans ((pk_un (by omega)).trans hV.n)) (by omega)
      · refine Or.inr (Or.inl ⟨c1, c2, ?_⟩)
        rw [if_neg c2]
        exact (pk_un (by omega)).trans hV.n
  have lo : ∀ j, j < 9 → fSet v (nI i) (nI 5) (nI z) j = v j := fun j hj => fSet_lo (by omega) (by omega) hj
  have hPw : PI (fSet v (nI i) (nI 5) (nI z)) k T := hP.set hi h16 (by omega)
  have hfin : ∀ N2, fSet v (nI i) (nI 5) (nI z) 9 = nI N2 → N2 ≤ N + 1 → VI (fSet v (nI i) (nI 5) (nI z)) k T S N2 ∧ N2 ≤ B + 60000 := by
    intro N2 e hN2
    obtain ⟨a, b, _⟩ := hD1.to9 ((lo 0 (by omega)).trans hV.z) h16 ((lo 1 (by omega)).trans hV.t) hV.tl ((lo 5 (by omega)).trans hV.s) hV.sl e (by omega) (by omega)
    exact ⟨a, b⟩
  refine ⟨h1, h2, x', h3, h4, ?_⟩
  rcases h9 with ⟨f1, e⟩ | ⟨f1, f2, e⟩ | ⟨f1, f2, e⟩
  · obtain ⟨a, b⟩ := hfin N e (by omega)
    exact ⟨_, _, _, N, hD1, a, b, hPw, h5, Or.inl ⟨f1, rfl⟩⟩
  · obtain ⟨a, b⟩ := hfin N e (by omega)
    exact ⟨_, _, _, N, hD1, a, b, hPw, h5, Or.inr (Or.inl ⟨f1, f2, rfl⟩)⟩
  · obtain ⟨a, b⟩ := hfin (N + 1) e (by omega)
    exact ⟨_, _, _, N + 1, hD1, a, b, hPw, h5, Or.inr (Or.inr ⟨f1, f2, rfl⟩)⟩
