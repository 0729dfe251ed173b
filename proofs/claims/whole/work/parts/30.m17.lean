/-- more signs behind what went before -/
def sqk (t : Nat → Int32) (L : Nat) (p : Bool × Nat) (xs : List Int32) : Bool × Nat := if p.1 = true then sq t L xs p.2 else (false, p.2)
def wdE (t : Nat → Int32) (L : Nat) (p : Bool × Nat) : Bool × Nat := sqk t L p [nI 32]
/-- a command's word: its kind, whether it is there, where it stops -/
def wdP (t : Nat → Int32) (L A : Nat) : Int32 × Bool × Nat :=
  if sg t L A = nI 97 then (nI 1, sq t L [nI 97, nI 99, nI 107] A)
  else if sg t L A = nI 116 then (nI 3, sqk t L (sq t L [nI 116, nI 105, nI 99] A) [nI 107])
  else if tkB t L A (nI 115) = true then
    if sg t L (tkA t L A (nI 115)) = nI 104 then (nI 2, sqk t L (sq t L [nI 104, nI 101, nI 108] (tkA t L A (nI 115))) [nI 118, nI 101])
    else if sg t L (tkA t L A (nI 115)) = nI 116 then (nI 4, sqk t L (sq t L [nI 116, nI 97, nI 116] (tkA t L A (nI 115))) [nI 101])
    else (nI 0, sq t L [nI 101, nI 116] (tkA t L A (nI 115)))
  else (nI 0, false, tkA t L A (nI 115))
theorem sq_one {t : Nat → Int32} {L A : Nat} {x : Int32} : sq t L [x] A = (tkB t L A x, tkA t L A x) := by
  simp only [sq]; cases tkB t L A x <;> rfl
theorem sq_two {t : Nat → Int32} {L A : Nat} {x y : Int32} : sq t L [x, y] A = if tkB t L A x = true then (tkB t L (tkA t L A x) y, tkA t L (tkA t L A x) y) else (false, tkA t L A x) := by
  simp only [sq]; cases tkB t L A x <;> cases tkB t L (tkA t L A x) y <;> rfl
theorem sqk_le {t : Nat → Int32} {L : Nat} {p : Bool × Nat} {xs : List Int32} (h : p.2 ≤ L) (hx : ∀ x ∈ xs, x ≠ -1) : (sqk t L p xs).2 ≤ L := by
  unfold sqk
  split
  · exact sq_le xs _ h hx
  · exact h
theorem wdP_le {t : Nat → Int32} {L A : Nat} (h : A ≤ L) : (wdP t L A).2.2 ≤ L := by
  unfold wdP
  have h1 := tkA_le (t := t) (x := nI 115) h (by decide)
  split
  · exact sq_le _ _ h (by decide)
  · split
    · exact sqk_le (sq_le _ _ h (by decide)) (by decide)
    · split
      · split
        · exact sqk_le (sq_le _ _ h1 (by decide)) (by decide)
        · split
          · exact sqk_le (sq_le _ _ h1 (by decide)) (by decide)
          · exact sq_le _ _ h1 (by decide)
      · exact h1

set_option maxRecDepth 100000 in
set_option maxHeartbeats 4000000 in
theorem lp_X6_word {E : jx_E} {l : Launch} {n : Nat} {kd : jx_K} {R : jx_R} {I0 : jx_I} {m : Nat} {F v a p o t c : Nat → Int32} {L A D : Nat} {kk z : Int32} {b : Bool} (hs : sMd kd R m) (hL : F 7 = nI L) (hL8 : L ≤ 80) (hA0 : F 8 = nI A) (hA : A ≤ L) (hD : F 9 = nI D) (hD2 : D ≤ 20) (hz : z = bi b) : jx_J E l cX6_word 3 (some .boolean) RX6 false (jx_rm 3) 0 0 (jx_Q0 n kd R (jx_Pi (fun r I' => r = bi (wdE t L (b, A)).1 ∧ I' = mI I0 m (upd F 8 (nI (wdE t L (b, A)).2)) v a p o t (upd c (3 * D) kk)))) 0 0 n kd R (mI I0 m F v a p o t c) 197 [some (.ref m), some (.int kk), some (.int z)] [] := by
  obtain ⟨K0, K1, K2, K3, K4, K5, K6, R0, R1, R2, R4, R6, R10⟩ := id hs
  have hFA : upd F 8 (nI A) = F := by rw [← hA0]; funext j; unfold upd; split <;> simp_all
  subst hz
  refine j_aload_n (pc' := 198) dX6_word_197 rfl rfl ?_
  refine j_getR (pc' := 201) f_X6_25 (by assumption) (by assumption) dX6_word_198 rfl ?_
  refine j_iconst (pc' := 202) (v := nI 3) dX6_word_201 rfl rfl ?_
  refine j_aload_n (pc' := 203) dX6_word_202 rfl rfl ?_
  refine j_getIv (pc' := 206) f_X6_149 (by assumption) (by first | (simp (disch := omega) only [jx_upS, jx_upK, jx_upA, mI_0, mI_1, mI_2, mI_3, mI_4, mI_5, mI_6, pk_us, pk_un, hD]; rfl) | rfl) dX6_word_203 rfl ?_
  first | refine j_imulN' (pc' := 207) (by with_reducible rfl) (by with_reducible rfl) dX6_word_206 rfl ?_ | refine j_imul (pc' := 207) dX6_word_206 rfl ?_
  refine j_iload_n (pc' := 208) dX6_word_207 rfl rfl ?_
  refine j_iast (pc' := 209) (by assumption) rfl (by omega) (by omega) dX6_word_208 rfl ?_
  first | refine j_eqI mW_1 ?_ | refine j_eqI mW_2 ?_ | refine j_eqI mW_3 ?_ | refine j_eqI mW_4 ?_ | refine j_eqI mW_5 ?_ | refine j_eqI mW_6 ?_
  refine j_iload_n (pc' := 210) dX6_word_209 rfl rfl ?_
  first | refine j_if_eqB' (tgt := 226) (pc' := 213) (by with_reducible rfl) dX6_word_210 rfl (by decide) (fun c210 => ?_) (fun c210 => ?_) | refine j_if_eqN' (tgt := 226) (pc' := 213) (by with_reducible rfl) (by omega) dX6_word_210 rfl (by decide) (fun c210 => ?_) (fun c210 => ?_) | refine j_if_eq (tgt := 226) (pc' := 213) dX6_word_210 rfl (by decide) (fun c210 => ?_) (fun c210 => ?_)
  ·
    refine j_iconst (pc' := 227) (v := nI 0) dX6_word_226 rfl rfl ?_
    refine j_reti dX6_word_227 rfl (by first | rfl | exact bi_n _) ?_
    simp only [wdE, sqk, sq_one, c210, reduceIte, Bool.false_eq_true, and_true, and_false, true_and, false_and, not_true_eq_false, not_false_eq_true, decide_true, decide_false, eq_self, or_true, or_false, true_or, false_or, ne_eq]
    first | exact ⟨rfl, rfl⟩ | exact ⟨rfl, by rw [hFA]⟩ | rfl | rw [hFA]
  ·
    refine j_aload_n (pc' := 214) dX6_word_213 rfl rfl ?_
    refine j_bipush (pc' := 216) (v := nI 32) dX6_word_214 rfl rfl ?_
    refine j_cVi (pc' := 219) m_X6_146 (c_X6_takes hs (by first | exact hL | (simp (disch := omega) only [pk_un]; exact hL)) hL8 (by first | exact hA0 | exact pk_us) (by repeat (first | exact hA | assumption | refine tkA_le ?_ (by first | assumption | decide) | refine sq_le _ _ ?_ (by decide)))) (by assumption) (by decide) rfl rfl rfl ⟨Nat.le_of_ble_eq_true rfl, Nat.le_of_ble_eq_true rfl⟩ ⟨Nat.zero_le _, Nat.zero_le _⟩ (Nat.le_of_ble_eq_true rfl) dX6_word_216 rfl (fun x1 I1 hq => ?_)
    obtain ⟨rfl, rfl⟩ := hq
    try rw [upd_upd]
    first | refine j_if_eqB' (tgt := 226) (pc' := 222) (by with_reducible rfl) dX6_word_219 rfl (by decide) (fun c219 => ?_) (fun c219 => ?_) | refine j_if_eqN' (tgt := 226) (pc' := 222) (by with_reducible rfl) (by omega) dX6_word_219 rfl (by decide) (fun c219 => ?_) (fun c219 => ?_) | refine j_if_eq (tgt := 226) (pc' := 222) dX6_word_219 rfl (by decide) (fun c219 => ?_) (fun c219 => ?_)
    ·
      refine j_iconst (pc' := 227) (v := nI 0) dX6_word_226 rfl rfl ?_
      refine j_reti dX6_word_227 rfl (by first | rfl | exact bi_n _) ?_
      simp only [wdE, sqk, sq_one, c210, c219, reduceIte, Bool.false_eq_true, and_true, and_false, true_and, false_and, not_true_eq_false, not_false_eq_true, decide_true, decide_false, eq_self, or_true, or_false, true_or, false_or, ne_eq]
      first | exact ⟨rfl, rfl⟩ | exact ⟨rfl, by rw [hFA]⟩ | rfl | rw [hFA]
    ·
      refine j_iconst (pc' := 223) (v := nI 1) dX6_word_222 rfl rfl ?_
      refine j_goto (tgt := 227) dX6_word_223 (by decide) ?_
      refine j_reti dX6_word_227 rfl (by first | rfl | exact bi_n _) ?_
      simp only [wdE, sqk, sq_one, c210, c219, reduceIte, Bool.false_eq_true, and_true, and_false, true_and, false_and, not_true_eq_false, not_false_eq_true, decide_true, decide_false, eq_self, or_true, or_false, true_or, false_or, ne_eq]
      first | exact ⟨rfl, rfl⟩ | exact ⟨rfl, by rw [hFA]⟩ | rfl | rw [hFA]
set_option maxRecDepth 100000 in
set_option maxHeartbeats 4000000 in
theorem c_X6_word {E : jx_E} {l : Launch} {n : Nat} {kd : jx_K} {R : jx_R} {I0 : jx_I} {m : Nat} {F v a p o t c : Nat → Int32} {L A D : Nat} (hs : sMd kd R m) (hL : F 7 = nI L) (hL8 : L ≤ 80) (hA0 : F 8 = nI A) (hA : A ≤ L) (hD : F 9 = nI D) (hD2 : D ≤ 20) : jx_Ci E l yX6_word cX6_word 3 (some .boolean) 3 n kd R (mI I0 m F v a p o t c) [.ref m] (fun r I' => r = bi (wdE t L (wdP t L A).2).1 ∧ I' = mI I0 m (upd F 8 (nI (wdE t L (wdP t L A).2).2)) v a p o t (upd c (3 * D) (wdP t L A).1)) := by
  obtain ⟨K0, K1, K2, K3, K4, K5, K6, R0, R1, R2, R4, R6, R10⟩ := id hs
  refine jx_C0.ofJ RX6 [some (.ref m), none, none] (by decide) rfl rfl (Nat.le_of_ble_eq_true rfl) rfl ?_
  refine j_iconst (pc' := 1) (v := nI 0) dX6_word_0 rfl rfl ?_
  refine j_istore_n (pc' := 2) (lv' := [_, _, _]) dX6_word_1 rfl (by decide) rfl ?_
  refine j_iconst (pc' := 3) (v := nI 0) dX6_word_2 rfl rfl ?_
  refine j_istore_n (pc' := 4) (lv' := [_, _, _]) dX6_word_3 rfl (by decide) rfl ?_
  refine j_aload_n (pc' := 5) dX6_word_4 rfl rfl ?_
  refine j_cVi (pc' := 8) m_X6_143 (c_X6_sign hs (by first | exact hL | (simp (disch := omega) only [pk_un]; exact hL)) hL8 (by first | exact hA0 | exact pk_us) (by repeat (first | exact hA | assumption | refine tkA_le ?_ (by first | assumption | decide) | refine sq_le _ _ ?_ (by decide)))) (by assumption) (by decide) rfl rfl rfl ⟨Nat.le_of_ble_eq_true rfl, Nat.le_of_ble_eq_true rfl⟩ ⟨Nat.zero_le _, Nat.zero_le _⟩ (Nat.le_of_ble_eq_true rfl) dX6_word_5 rfl (fun x1 I1 hq => ?_)
  obtain ⟨rfl, rfl⟩ := hq
  refine j_bipush (pc' := 10) (v := nI 97) dX6_word_8 rfl rfl ?_
  first | refine j_icmp_neN' (tgt := 29) (pc' := 13) (by with_reducible rfl) (by with_reducible rfl) (by omega) (by omega) dX6_word_10 rfl (by decide) (fun c10 => ?_) (fun c10 => ?_) | refine j_icmp_ne (tgt := 29) (pc' := 13) dX6_word_10 rfl (by decide) (fun c10 => ?_) (fun c10 => ?_)
  ·
    refine j_aload_n (pc' := 30) dX6_word_29 rfl rfl ?_
    refine j_cVi (pc' := 33) m_X6_143 (c_X6_sign hs (by first | exact hL | (simp (disch := omega) only [pk_un]; exact hL)) hL8 (by first | exact hA0 | exact pk_us) (by repeat (first | exact hA | assumption | refine tkA_le ?_ (by first | assumption | decide) | refine sq_le _ _ ?_ (by decide)))) (by assumption) (by decide) rfl rfl rfl ⟨Nat.le_of_ble_eq_true rfl, Nat.le_of_ble_eq_true rfl⟩ ⟨Nat.zero_le _, Nat.zero_le _⟩ (Nat.le_of_ble_eq_true rfl) dX6_word_30 rfl (fun x1 I1 hq => ?_)
    obtain ⟨rfl, rfl⟩ := hq
    refine j_bipush (pc' := 35) (v := nI 116) dX6_word_33 rfl rfl ?_
    first | refine j_icmp_neN' (tgt := 71) (pc' := 38) (by with_reducible rfl) (by with_reducible rfl) (by omega) (by omega) dX6_word_35 rfl (by decide) (fun c35 => ?_) (fun c35 => ?_) | refine j_icmp_ne (tgt := 71) (pc' := 38) dX6_word_35 rfl (by decide) (fun c35 => ?_) (fun c35 => ?_)
    ·
      refine j_aload_n (pc' := 72) dX6_word_71 rfl rfl ?_
      refine j_bipush (pc' := 74) (v := nI 115) dX6_word_72 rfl rfl ?_
      refine j_cVi (pc' := 77) m_X6_146 (c_X6_takes hs (by first | exact hL | (simp (disch := omega) only [pk_un]; exact hL)) hL8 (by first | exact hA0 | exact pk_us) (by repeat (first | exact hA | assumption | refine tkA_le ?_ (by first | assumption | decide) | refine sq_le _ _ ?_ (by decide)))) (by assumption) (by decide) rfl rfl rfl ⟨Nat.le_of_ble_eq_true rfl, Nat.le_of_ble_eq_true rfl⟩ ⟨Nat.zero_le _, Nat.zero_le _⟩ (Nat.le_of_ble_eq_true rfl) dX6_word_74 rfl (fun x1 I1 hq => ?_)
      obtain ⟨rfl, rfl⟩ := hq
      try rw [upd_upd]
      first | refine j_if_eqB' (tgt := 197) (pc' := 80) (by with_reducible rfl) dX6_word_77 rfl (by decide) (fun c77 => ?_) (fun c77 => ?_) | refine j_if_eqN' (tgt := 197) (pc' := 80) (by with_reducible rfl) (by omega) dX6_word_77 rfl (by decide) (fun c77 => ?_) (fun c77 => ?_) | refine j_if_eq (tgt := 197) (pc' := 80) dX6_word_77 rfl (by decide) (fun c77 => ?_) (fun c77 => ?_)
      ·
        skip
        refine ct_post_i (fun r I' hq => ?_) (lp_X6_word (b := false) hs (by first | exact hL | (simp (disch := omega) only [pk_un]; exact hL)) hL8 (A := _) (by first | exact hA0 | exact pk_us) (by repeat (first | exact hA | assumption | refine tkA_le ?_ (by first | assumption | decide) | refine sq_le _ _ ?_ (by decide))) (by first | exact hD | (simp (disch := omega) only [pk_un]; exact hD)) hD2 rfl)
        simp only [wdP, sqk, sq_one, sq_two, c10, c35, c77, reduceIte, Bool.false_eq_true, and_true, and_false, true_and, false_and, not_true_eq_false, not_false_eq_true, decide_true, decide_false, eq_self, or_true, or_false, true_or, false_or, ne_eq]
        try rw [upd_upd] at hq
        exact hq
      ·
        refine j_aload_n (pc' := 81) dX6_word_80 rfl rfl ?_
        refine j_cVi (pc' := 84) m_X6_143 (c_X6_sign hs (by first | exact hL | (simp (disch := omega) only [pk_un]; exact hL)) hL8 (by first | exact hA0 | exact pk_us) (by repeat (first | exact hA | assumption | refine tkA_le ?_ (by first | assumption | decide) | refine sq_le _ _ ?_ (by decide)))) (by assumption) (by decide) rfl rfl rfl ⟨Nat.le_of_ble_eq_true rfl, Nat.le_of_ble_eq_true rfl⟩ ⟨Nat.zero_le _, Nat.zero_le _⟩ (Nat.le_of_ble_eq_true rfl) dX6_word_81 rfl (fun x1 I1 hq => ?_)
        obtain ⟨rfl, rfl⟩ := hq
        refine j_bipush (pc' := 86) (v := nI 104) dX6_word_84 rfl rfl ?_
        first | refine j_icmp_neN' (tgt := 131) (pc' := 89) (by with_reducible rfl) (by with_reducible rfl) (by omega) (by omega) dX6_word_86 rfl (by decide) (fun c86 => ?_) (fun c86 => ?_) | refine j_icmp_ne (tgt := 131) (pc' := 89) dX6_word_86 rfl (by decide) (fun c86 => ?_) (fun c86 => ?_)
        ·
          refine j_aload_n (pc' := 132) dX6_word_131 rfl rfl ?_
          refine j_cVi (pc' := 135) m_X6_143 (c_X6_sign hs (by first | exact hL | (simp (disch := omega) only [pk_un]; exact hL)) hL8 (by first | exact hA0 | exact pk_us) (by repeat (first | exact hA | assumption | refine tkA_le ?_ (by first | assumption | decide) | refine sq_le _ _ ?_ (by decide)))) (by assumption) (by decide) rfl rfl rfl ⟨Nat.le_of_ble_eq_true rfl, Nat.le_of_ble_eq_true rfl⟩ ⟨Nat.zero_le _, Nat.zero_le _⟩ (Nat.le_of_ble_eq_true rfl) dX6_word_132 rfl (fun x1 I1 hq => ?_)
          obtain ⟨rfl, rfl⟩ := hq
          refine j_bipush (pc' := 137) (v := nI 116) dX6_word_135 rfl rfl ?_
          first | refine j_icmp_neN' (tgt := 173) (pc' := 140) (by with_reducible rfl) (by with_reducible rfl) (by omega) (by omega) dX6_word_137 rfl (by decide) (fun c137 => ?_) (fun c137 => ?_) | refine j_icmp_ne (tgt := 173) (pc' := 140) dX6_word_137 rfl (by decide) (fun c137 => ?_) (fun c137 => ?_)
          ·
            refine j_aload_n (pc' := 174) dX6_word_173 rfl rfl ?_
            refine j_bipush (pc' := 176) (v := nI 101) dX6_word_174 rfl rfl ?_
            refine j_cVi (pc' := 179) m_X6_146 (c_X6_takes hs (by first | exact hL | (simp (disch := omega) only [pk_un]; exact hL)) hL8 (by first | exact hA0 | exact pk_us) (by repeat (first | exact hA | assumption | refine tkA_le ?_ (by first | assumption | decide) | refine sq_le _ _ ?_ (by decide)))) (by assumption) (by decide) rfl rfl rfl ⟨Nat.le_of_ble_eq_true rfl, Nat.le_of_ble_eq_true rfl⟩ ⟨Nat.zero_le _, Nat.zero_le _⟩ (Nat.le_of_ble_eq_true rfl) dX6_word_176 rfl (fun x1 I1 hq => ?_)
            obtain ⟨rfl, rfl⟩ := hq
            try rw [upd_upd]
            first | refine j_if_eqB' (tgt := 195) (pc' := 182) (by with_reducible rfl) dX6_word_179 rfl (by decide) (fun c179 => ?_) (fun c179 => ?_) | refine j_if_eqN' (tgt := 195) (pc' := 182) (by with_reducible rfl) (by omega) dX6_word_179 rfl (by decide) (fun c179 => ?_) (fun c179 => ?_) | refine j_if_eq (tgt := 195) (pc' := 182) dX6_word_179 rfl (by decide) (fun c179 => ?_) (fun c179 => ?_)
            ·
              refine j_iconst (pc' := 196) (v := nI 0) dX6_word_195 rfl rfl ?_
              refine j_istore_n (pc' := 197) (lv' := [_, _, _]) dX6_word_196 rfl (by decide) rfl ?_
              refine ct_post_i (fun r I' hq => ?_) (lp_X6_word (b := false) hs (by first | exact hL | (simp (disch := omega) only [pk_un]; exact hL)) hL8 (A := _) (by first | exact hA0 | exact pk_us) (by repeat (first | exact hA | assumption | refine tkA_le ?_ (by first | assumption | decide) | refine sq_le _ _ ?_ (by decide))) (by first | exact hD | (simp (disch := omega) only [pk_un]; exact hD)) hD2 rfl)
              simp only [wdP, sqk, sq_one, sq_two, c10, c35, c77, c86, c137, c179, reduceIte, Bool.false_eq_true, and_true, and_false, true_and, false_and, not_true_eq_false, not_false_eq_true, decide_true, decide_false, eq_self, or_true, or_false, true_or, false_or, ne_eq]
              try rw [upd_upd] at hq
              exact hq
            ·
              refine j_aload_n (pc' := 183) dX6_word_182 rfl rfl ?_
              refine j_bipush (pc' := 185) (v := nI 116) dX6_word_183 rfl rfl ?_
              refine j_cVi (pc' := 188) m_X6_146 (c_X6_takes hs (by first | exact hL | (simp (disch := omega) only [pk_un]; exact hL)) hL8 (by first | exact hA0 | exact pk_us) (by repeat (first | exact hA | assumption | refine tkA_le ?_ (by first | assumption | decide) | refine sq_le _ _ ?_ (by decide)))) (by assumption) (by decide) rfl rfl rfl ⟨Nat.le_of_ble_eq_true rfl, Nat.le_of_ble_eq_true rfl⟩ ⟨Nat.zero_le _, Nat.zero_le _⟩ (Nat.le_of_ble_eq_true rfl) dX6_word_185 rfl (fun x1 I1 hq => ?_)
              obtain ⟨rfl, rfl⟩ := hq
              try rw [upd_upd]
              first | refine j_if_eqB' (tgt := 195) (pc' := 191) (by with_reducible rfl) dX6_word_188 rfl (by decide) (fun c188 => ?_) (fun c188 => ?_) | refine j_if_eqN' (tgt := 195) (pc' := 191) (by with_reducible rfl) (by omega) dX6_word_188 rfl (by decide) (fun c188 => ?_) (fun c188 => ?_) | refine j_if_eq (tgt := 195) (pc' := 191) dX6_word_188 rfl (by decide) (fun c188 => ?_) (fun c188 => ?_)
              ·
                refine j_iconst (pc' := 196) (v := nI 0) dX6_word_195 rfl rfl ?_
                refine j_istore_n (pc' := 197) (lv' := [_, _, _]) dX6_word_196 rfl (by decide) rfl ?_
                refine ct_post_i (fun r I' hq => ?_) (lp_X6_word (b := false) hs (by first | exact hL | (simp (disch := omega) only [pk_un]; exact hL)) hL8 (A := _) (by first | exact hA0 | exact pk_us) (by repeat (first | exact hA | assumption | refine tkA_le ?_ (by first | assumption | decide) | refine sq_le _ _ ?_ (by decide))) (by first | exact hD | (simp (disch := omega) only [pk_un]; exact hD)) hD2 rfl)
                simp only [wdP, sqk, sq_one, sq_two, c10, c35, c77, c86, c137, c179, c188, reduceIte, Bool.false_eq_true, and_true, and_false, true_and, false_and, not_true_eq_false, not_false_eq_true, decide_true, decide_false, eq_self, or_true, or_false, true_or, false_or, ne_eq]
                try rw [upd_upd] at hq
                exact hq
              ·
                refine j_iconst (pc' := 192) (v := nI 1) dX6_word_191 rfl rfl ?_
                refine j_goto (tgt := 196) dX6_word_192 (by decide) ?_
                refine j_istore_n (pc' := 197) (lv' := [_, _, _]) dX6_word_196 rfl (by decide) rfl ?_
                refine ct_post_i (fun r I' hq => ?_) (lp_X6_word (b := true) hs (by first | exact hL | (simp (disch := omega) only [pk_un]; exact hL)) hL8 (A := _) (by first | exact hA0 | exact pk_us) (by repeat (first | exact hA | assumption | refine tkA_le ?_ (by first | assumption | decide) | refine sq_le _ _ ?_ (by decide))) (by first | exact hD | (simp (disch := omega) only [pk_un]; exact hD)) hD2 rfl)
                simp only [wdP, sqk, sq_one, sq_two, c10, c35, c77, c86, c137, c179, c188, reduceIte, Bool.false_eq_true, and_true, and_false, true_and, false_and, not_true_eq_false, not_false_eq_true, decide_true, decide_false, eq_self, or_true, or_false, true_or, false_or, ne_eq]
                try rw [upd_upd] at hq
                exact hq
          ·
            refine j_iconst (pc' := 141) (v := nI 4) dX6_word_140 rfl rfl ?_
            refine j_istore_n (pc' := 142) (lv' := [_, _, _]) dX6_word_141 rfl (by decide) rfl ?_
            refine j_aload_n (pc' := 143) dX6_word_142 rfl rfl ?_
            refine j_bipush (pc' := 145) (v := nI 116) dX6_word_143 rfl rfl ?_
            refine j_bipush (pc' := 147) (v := nI 97) dX6_word_145 rfl rfl ?_
            refine j_bipush (pc' := 149) (v := nI 116) dX6_word_147 rfl rfl ?_
            refine j_cVi (pc' := 152) m_X6_152 (c_X6_three hs (by first | exact hL | (simp (disch := omega) only [pk_un]; exact hL)) hL8 (by first | exact hA0 | exact pk_us) (by repeat (first | exact hA | assumption | refine tkA_le ?_ (by first | assumption | decide) | refine sq_le _ _ ?_ (by decide))) (by decide) (by decide) (by decide)) (by assumption) (by decide) rfl rfl rfl ⟨Nat.le_of_ble_eq_true rfl, Nat.le_of_ble_eq_true rfl⟩ ⟨Nat.zero_le _, Nat.zero_le _⟩ (Nat.le_of_ble_eq_true rfl) dX6_word_149 rfl (fun x1 I1 hq => ?_)
            obtain ⟨rfl, rfl⟩ := hq
            try rw [upd_upd]
            first | refine j_if_eqB' (tgt := 168) (pc' := 155) (by with_reducible rfl) dX6_word_152 rfl (by decide) (fun c152 => ?_) (fun c152 => ?_) | refine j_if_eqN' (tgt := 168) (pc' := 155) (by with_reducible rfl) (by omega) dX6_word_152 rfl (by decide) (fun c152 => ?_) (fun c152 => ?_) | refine j_if_eq (tgt := 168) (pc' := 155) dX6_word_152 rfl (by decide) (fun c152 => ?_) (fun c152 => ?_)
            ·
              refine j_iconst (pc' := 169) (v := nI 0) dX6_word_168 rfl rfl ?_
              refine j_istore_n (pc' := 170) (lv' := [_, _, _]) dX6_word_169 rfl (by decide) rfl ?_
              refine j_goto (tgt := 197) dX6_word_170 (by decide) ?_
              refine ct_post_i (fun r I' hq => ?_) (lp_X6_word (b := false) hs (by first | exact hL | (simp (disch := omega) only [pk_un]; exact hL)) hL8 (A := _) (by first | exact hA0 | exact pk_us) (by repeat (first | exact hA | assumption | refine tkA_le ?_ (by first | assumption | decide) | refine sq_le _ _ ?_ (by decide))) (by first | exact hD | (simp (disch := omega) only [pk_un]; exact hD)) hD2 rfl)
              simp only [wdP, sqk, sq_one, sq_two, c10, c35, c77, c86, c137, c152, reduceIte, Bool.false_eq_true, and_true, and_false, true_and, false_and, not_true_eq_false, not_false_eq_true, decide_true, decide_false, eq_self, or_true, or_false, true_or, false_or, ne_eq]
              try rw [upd_upd] at hq
              exact hq
            ·
              refine j_aload_n (pc' := 156) dX6_word_155 rfl rfl ?_
              refine j_bipush (pc' := 158) (v := nI 101) dX6_word_156 rfl rfl ?_
              refine j_cVi (pc' := 161) m_X6_146 (c_X6_takes hs (by first | exact hL | (simp (disch := omega) only [pk_un]; exact hL)) hL8 (by first | exact hA0 | exact pk_us) (by repeat (first | exact hA | assumption | refine tkA_le ?_ (by first | assumption | decide) | refine sq_le _ _ ?_ (by decide)))) (by assumption) (by decide) rfl rfl rfl ⟨Nat.le_of_ble_eq_true rfl, Nat.le_of_ble_eq_true rfl⟩ ⟨Nat.zero_le _, Nat.zero_le _⟩ (Nat.le_of_ble_eq_true rfl) dX6_word_158 rfl (fun x1 I1 hq => ?_)
              obtain ⟨rfl, rfl⟩ := hq
              try rw [upd_upd]
              first | refine j_if_eqB' (tgt := 168) (pc' := 164) (by with_reducible rfl) dX6_word_161 rfl (by decide) (fun c161 => ?_) (fun c161 => ?_) | refine j_if_eqN' (tgt := 168) (pc' := 164) (by with_reducible rfl) (by omega) dX6_word_161 rfl (by decide) (fun c161 => ?_) (fun c161 => ?_) | refine j_if_eq (tgt := 168) (pc' := 164) dX6_word_161 rfl (by decide) (fun c161 => ?_) (fun c161 => ?_)
              ·
                refine j_iconst (pc' := 169) (v := nI 0) dX6_word_168 rfl rfl ?_
                refine j_istore_n (pc' := 170) (lv' := [_, _, _]) dX6_word_169 rfl (by decide) rfl ?_
                refine j_goto (tgt := 197) dX6_word_170 (by decide) ?_
                refine ct_post_i (fun r I' hq => ?_) (lp_X6_word (b := false) hs (by first | exact hL | (simp (disch := omega) only [pk_un]; exact hL)) hL8 (A := _) (by first | exact hA0 | exact pk_us) (by repeat (first | exact hA | assumption | refine tkA_le ?_ (by first | assumption | decide) | refine sq_le _ _ ?_ (by decide))) (by first | exact hD | (simp (disch := omega) only [pk_un]; exact hD)) hD2 rfl)
                simp only [wdP, sqk, sq_one, sq_two, c10, c35, c77, c86, c137, c152, c161, reduceIte, Bool.false_eq_true, and_true, and_false, true_and, false_and, not_true_eq_false, not_false_eq_true, decide_true, decide_false, eq_self, or_true, or_false, true_or, false_or, ne_eq]
                try rw [upd_upd] at hq
                exact hq
              ·
                refine j_iconst (pc' := 165) (v := nI 1) dX6_word_164 rfl rfl ?_
                refine j_goto (tgt := 169) dX6_word_165 (by decide) ?_
                refine j_istore_n (pc' := 170) (lv' := [_, _, _]) dX6_word_169 rfl (by decide) rfl ?_
                refine j_goto (tgt := 197) dX6_word_170 (by decide) ?_
                refine ct_post_i (fun r I' hq => ?_) (lp_X6_word (b := true) hs (by first | exact hL | (simp (disch := omega) only [pk_un]; exact hL)) hL8 (A := _) (by first | exact hA0 | exact pk_us) (by repeat (first | exact hA | assumption | refine tkA_le ?_ (by first | assumption | decide) | refine sq_le _ _ ?_ (by decide))) (by first | exact hD | (simp (disch := omega) only [pk_un]; exact hD)) hD2 rfl)
                simp only [wdP, sqk, sq_one, sq_two, c10, c35, c77, c86, c137, c152, c161, reduceIte, Bool.false_eq_true, and_true, and_false, true_and, false_and, not_true_eq_false, not_false_eq_true, decide_true, decide_false, eq_self, or_true, or_false, true_or, false_or, ne_eq]
                try rw [upd_upd] at hq
                exact hq
        ·
          refine j_iconst (pc' := 90) (v := nI 2) dX6_word_89 rfl rfl ?_
          refine j_istore_n (pc' := 91) (lv' := [_, _, _]) dX6_word_90 rfl (by decide) rfl ?_
          refine j_aload_n (pc' := 92) dX6_word_91 rfl rfl ?_
          refine j_bipush (pc' := 94) (v := nI 104) dX6_word_92 rfl rfl ?_
          refine j_bipush (pc' := 96) (v := nI 101) dX6_word_94 rfl rfl ?_
          refine j_bipush (pc' := 98) (v := nI 108) dX6_word_96 rfl rfl ?_
          refine j_cVi (pc' := 101) m_X6_152 (c_X6_three hs (by first | exact hL | (simp (disch := omega) only [pk_un]; exact hL)) hL8 (by first | exact hA0 | exact pk_us) (by repeat (first | exact hA | assumption | refine tkA_le ?_ (by first | assumption | decide) | refine sq_le _ _ ?_ (by decide))) (by decide) (by decide) (by decide)) (by assumption) (by decide) rfl rfl rfl ⟨Nat.le_of_ble_eq_true rfl, Nat.le_of_ble_eq_true rfl⟩ ⟨Nat.zero_le _, Nat.zero_le _⟩ (Nat.le_of_ble_eq_true rfl) dX6_word_98 rfl (fun x1 I1 hq => ?_)
          obtain ⟨rfl, rfl⟩ := hq
          try rw [upd_upd]
          first | refine j_if_eqB' (tgt := 126) (pc' := 104) (by with_reducible rfl) dX6_word_101 rfl (by decide) (fun c101 => ?_) (fun c101 => ?_) | refine j_if_eqN' (tgt := 126) (pc' := 104) (by with_reducible rfl) (by omega) dX6_word_101 rfl (by decide) (fun c101 => ?_) (fun c101 => ?_) | refine j_if_eq (tgt := 126) (pc' := 104) dX6_word_101 rfl (by decide) (fun c101 => ?_) (fun c101 => ?_)
          ·
            refine j_iconst (pc' := 127) (v := nI 0) dX6_word_126 rfl rfl ?_
            refine j_istore_n (pc' := 128) (lv' := [_, _, _]) dX6_word_127 rfl (by decide) rfl ?_
            refine j_goto (tgt := 197) dX6_word_128 (by decide) ?_
            refine ct_post_i (fun r I' hq => ?_) (lp_X6_word (b := false) hs (by first | exact hL | (simp (disch := omega) only [pk_un]; exact hL)) hL8 (A := _) (by first | exact hA0 | exact pk_us) (by repeat (first | exact hA | assumption | refine tkA_le ?_ (by first | assumption | decide) | refine sq_le _ _ ?_ (by decide))) (by first | exact hD | (simp (disch := omega) only [pk_un]; exact hD)) hD2 rfl)
            simp only [wdP, sqk, sq_one, sq_two, c10, c35, c77, c86, c101, reduceIte, Bool.false_eq_true, and_true, and_false, true_and, false_and, not_true_eq_false, not_false_eq_true, decide_true, decide_false, eq_self, or_true, or_false, true_or, false_or, ne_eq]
            try rw [upd_upd] at hq
            exact hq
          ·
            refine j_aload_n (pc' := 105) dX6_word_104 rfl rfl ?_
            refine j_bipush (pc' := 107) (v := nI 118) dX6_word_105 rfl rfl ?_
            refine j_cVi (pc' := 110) m_X6_146 (c_X6_takes hs (by first | exact hL | (simp (disch := omega) only [pk_un]; exact hL)) hL8 (by first | exact hA0 | exact pk_us) (by repeat (first | exact hA | assumption | refine tkA_le ?_ (by first | assumption | decide) | refine sq_le _ _ ?_ (by decide)))) (by assumption) (by decide) rfl rfl rfl ⟨Nat.le_of_ble_eq_true rfl, Nat.le_of_ble_eq_true rfl⟩ ⟨Nat.zero_le _, Nat.zero_le _⟩ (Nat.le_of_ble_eq_true rfl) dX6_word_107 rfl (fun x1 I1 hq => ?_)
            obtain ⟨rfl, rfl⟩ := hq
            try rw [upd_upd]
            first | refine j_if_eqB' (tgt := 126) (pc' := 113) (by with_reducible rfl) dX6_word_110 rfl (by decide) (fun c110 => ?_) (fun c110 => ?_) | refine j_if_eqN' (tgt := 126) (pc' := 113) (by with_reducible rfl) (by omega) dX6_word_110 rfl (by decide) (fun c110 => ?_) (fun c110 => ?_) | refine j_if_eq (tgt := 126) (pc' := 113) dX6_word_110 rfl (by decide) (fun c110 => ?_) (fun c110 => ?_)
            ·
              refine j_iconst (pc' := 127) (v := nI 0) dX6_word_126 rfl rfl ?_
              refine j_istore_n (pc' := 128) (lv' := [_, _, _]) dX6_word_127 rfl (by decide) rfl ?_
              refine j_goto (tgt := 197) dX6_word_128 (by decide) ?_
              refine ct_post_i (fun r I' hq => ?_) (lp_X6_word (b := false) hs (by first | exact hL | (simp (disch := omega) only [pk_un]; exact hL)) hL8 (A := _) (by first | exact hA0 | exact pk_us) (by repeat (first | exact hA | assumption | refine tkA_le ?_ (by first | assumption | decide) | refine sq_le _ _ ?_ (by decide))) (by first | exact hD | (simp (disch := omega) only [pk_un]; exact hD)) hD2 rfl)
              simp only [wdP, sqk, sq_one, sq_two, c10, c35, c77, c86, c101, c110, reduceIte, Bool.false_eq_true, and_true, and_false, true_and, false_and, not_true_eq_false, not_false_eq_true, decide_true, decide_false, eq_self, or_true, or_false, true_or, false_or, ne_eq]
              try rw [upd_upd] at hq
              exact hq
            ·
              refine j_aload_n (pc' := 114) dX6_word_113 rfl rfl ?_
              refine j_bipush (pc' := 116) (v := nI 101) dX6_word_114 rfl rfl ?_
              refine j_cVi (pc' := 119) m_X6_146 (c_X6_takes hs (by first | exact hL | (simp (disch := omega) only [pk_un]; exact hL)) hL8 (by first | exact hA0 | exact pk_us) (by repeat (first | exact hA | assumption | refine tkA_le ?_ (by first | assumption | decide) | refine sq_le _ _ ?_ (by decide)))) (by assumption) (by decide) rfl rfl rfl ⟨Nat.le_of_ble_eq_true rfl, Nat.le_of_ble_eq_true rfl⟩ ⟨Nat.zero_le _, Nat.zero_le _⟩ (Nat.le_of_ble_eq_true rfl) dX6_word_116 rfl (fun x1 I1 hq => ?_)
              obtain ⟨rfl, rfl⟩ := hq
              try rw [upd_upd]
              first | refine j_if_eqB' (tgt := 126) (pc' := 122) (by with_reducible rfl) dX6_word_119 rfl (by decide) (fun c119 => ?_) (fun c119 => ?_) | refine j_if_eqN' (tgt := 126) (pc' := 122) (by with_reducible rfl) (by omega) dX6_word_119 rfl (by decide) (fun c119 => ?_) (fun c119 => ?_) | refine j_if_eq (tgt := 126) (pc' := 122) dX6_word_119 rfl (by decide) (fun c119 => ?_) (fun c119 => ?_)
              ·
                refine j_iconst (pc' := 127) (v := nI 0) dX6_word_126 rfl rfl ?_
                refine j_istore_n (pc' := 128) (lv' := [_, _, _]) dX6_word_127 rfl (by decide) rfl ?_
                refine j_goto (tgt := 197) dX6_word_128 (by decide) ?_
                refine ct_post_i (fun r I' hq => ?_) (lp_X6_word (b := false) hs (by first | exact hL | (simp (disch := omega) only [pk_un]; exact hL)) hL8 (A := _) (by first | exact hA0 | exact pk_us) (by repeat (first | exact hA | assumption | refine tkA_le ?_ (by first | assumption | decide) | refine sq_le _ _ ?_ (by decide))) (by first | exact hD | (simp (disch := omega) only [pk_un]; exact hD)) hD2 rfl)
                simp only [wdP, sqk, sq_one, sq_two, c10, c35, c77, c86, c101, c110, c119, reduceIte, Bool.false_eq_true, and_true, and_false, true_and, false_and, not_true_eq_false, not_false_eq_true, decide_true, decide_false, eq_self, or_true, or_false, true_or, false_or, ne_eq]
                try rw [upd_upd] at hq
                exact hq
              ·
                refine j_iconst (pc' := 123) (v := nI 1) dX6_word_122 rfl rfl ?_
                refine j_goto (tgt := 127) dX6_word_123 (by decide) ?_
                refine j_istore_n (pc' := 128) (lv' := [_, _, _]) dX6_word_127 rfl (by decide) rfl ?_
                refine j_goto (tgt := 197) dX6_word_128 (by decide) ?_
                refine ct_post_i (fun r I' hq => ?_) (lp_X6_word (b := true) hs (by first | exact hL | (simp (disch := omega) only [pk_un]; exact hL)) hL8 (A := _) (by first | exact hA0 | exact pk_us) (by repeat (first | exact hA | assumption | refine tkA_le ?_ (by first | assumption | decide) | refine sq_le _ _ ?_ (by decide))) (by first | exact hD | (simp (disch := omega) only [pk_un]; exact hD)) hD2 rfl)
                simp only [wdP, sqk, sq_one, sq_two, c10, c35, c77, c86, c101, c110, c119, reduceIte, Bool.false_eq_true, and_true, and_false, true_and, false_and, not_true_eq_false, not_false_eq_true, decide_true, decide_false, eq_self, or_true, or_false, true_or, false_or, ne_eq]
                try rw [upd_upd] at hq
                exact hq
    ·
      refine j_iconst (pc' := 39) (v := nI 3) dX6_word_38 rfl rfl ?_
      refine j_istore_n (pc' := 40) (lv' := [_, _, _]) dX6_word_39 rfl (by decide) rfl ?_
      refine j_aload_n (pc' := 41) dX6_word_40 rfl rfl ?_
      refine j_bipush (pc' := 43) (v := nI 116) dX6_word_41 rfl rfl ?_
      refine j_bipush (pc' := 45) (v := nI 105) dX6_word_43 rfl rfl ?_
      refine j_bipush (pc' := 47) (v := nI 99) dX6_word_45 rfl rfl ?_
      refine j_cVi (pc' := 50) m_X6_152 (c_X6_three hs (by first | exact hL | (simp (disch := omega) only [pk_un]; exact hL)) hL8 (by first | exact hA0 | exact pk_us) (by repeat (first | exact hA | assumption | refine tkA_le ?_ (by first | assumption | decide) | refine sq_le _ _ ?_ (by decide))) (by decide) (by decide) (by decide)) (by assumption) (by decide) rfl rfl rfl ⟨Nat.le_of_ble_eq_true rfl, Nat.le_of_ble_eq_true rfl⟩ ⟨Nat.zero_le _, Nat.zero_le _⟩ (Nat.le_of_ble_eq_true rfl) dX6_word_47 rfl (fun x1 I1 hq => ?_)
      obtain ⟨rfl, rfl⟩ := hq
      try rw [upd_upd]
      first | refine j_if_eqB' (tgt := 66) (pc' := 53) (by with_reducible rfl) dX6_word_50 rfl (by decide) (fun c50 => ?_) (fun c50 => ?_) | refine j_if_eqN' (tgt := 66) (pc' := 53) (by with_reducible rfl) (by omega) dX6_word_50 rfl (by decide) (fun c50 => ?_) (fun c50 => ?_) | refine j_if_eq (tgt := 66) (pc' := 53) dX6_word_50 rfl (by decide) (fun c50 => ?_) (fun c50 => ?_)
      ·
        refine j_iconst (pc' := 67) (v := nI 0) dX6_word_66 rfl rfl ?_
        refine j_istore_n (pc' := 68) (lv' := [_, _, _]) dX6_word_67 rfl (by decide) rfl ?_
        refine j_goto (tgt := 197) dX6_word_68 (by decide) ?_
        refine ct_post_i (fun r I' hq => ?_) (lp_X6_word (b := false) hs (by first | exact hL | (simp (disch := omega) only [pk_un]; exact hL)) hL8 (A := _) (by first | exact hA0 | exact pk_us) (by repeat (first | exact hA | assumption | refine tkA_le ?_ (by first | assumption | decide) | refine sq_le _ _ ?_ (by decide))) (by first | exact hD | (simp (disch := omega) only [pk_un]; exact hD)) hD2 rfl)
        simp only [wdP, sqk, sq_one, sq_two, c10, c35, c50, reduceIte, Bool.false_eq_true, and_true, and_false, true_and, false_and, not_true_eq_false, not_false_eq_true, decide_true, decide_false, eq_self, or_true, or_false, true_or, false_or, ne_eq]
        try rw [upd_upd] at hq
        exact hq
      ·
        refine j_aload_n (pc' := 54) dX6_word_53 rfl rfl ?_
        refine j_bipush (pc' := 56) (v := nI 107) dX6_word_54 rfl rfl ?_
        refine j_cVi (pc' := 59) m_X6_146 (c_X6_takes hs (by first | exact hL | (simp (disch := omega) only [pk_un]; exact hL)) hL8 (by first | exact hA0 | exact pk_us) (by repeat (first | exact hA | assumption | refine tkA_le ?_ (by first | assumption | decide) | refine sq_le _ _ ?_ (by decide)))) (by assumption) (by decide) rfl rfl rfl ⟨Nat.le_of_ble_eq_true rfl, Nat.le_of_ble_eq_true rfl⟩ ⟨Nat.zero_le _, Nat.zero_le _⟩ (Nat.le_of_ble_eq_true rfl) dX6_word_56 rfl (fun x1 I1 hq => ?_)
        obtain ⟨rfl, rfl⟩ := hq
        try rw [upd_upd]
        first | refine j_if_eqB' (tgt := 66) (pc' := 62) (by with_reducible rfl) dX6_word_59 rfl (by decide) (fun c59 => ?_) (fun c59 => ?_) | refine j_if_eqN' (tgt := 66) (pc' := 62) (by with_reducible rfl) (by omega) dX6_word_59 rfl (by decide) (fun c59 => ?_) (fun c59 => ?_) | refine j_if_eq (tgt := 66) (pc' := 62) dX6_word_59 rfl (by decide) (fun c59 => ?_) (fun c59 => ?_)
        ·
          refine j_iconst (pc' := 67) (v := nI 0) dX6_word_66 rfl rfl ?_
          refine j_istore_n (pc' := 68) (lv' := [_, _, _]) dX6_word_67 rfl (by decide) rfl ?_
          refine j_goto (tgt := 197) dX6_word_68 (by decide) ?_
          refine ct_post_i (fun r I' hq => ?_) (lp_X6_word (b := false) hs (by first | exact hL | (simp (disch := omega) only [pk_un]; exact hL)) hL8 (A := _) (by first | exact hA0 | exact pk_us) (by repeat (first | exact hA | assumption | refine tkA_le ?_ (by first | assumption | decide) | refine sq_le _ _ ?_ (by decide))) (by first | exact hD | (simp (disch := omega) only [pk_un]; exact hD)) hD2 rfl)
          simp only [wdP, sqk, sq_one, sq_two, c10, c35, c50, c59, reduceIte, Bool.false_eq_true, and_true, and_false, true_and, false_and, not_true_eq_false, not_false_eq_true, decide_true, decide_false, eq_self, or_true, or_false, true_or, false_or, ne_eq]
          try rw [upd_upd] at hq
          exact hq
        ·
          refine j_iconst (pc' := 63) (v := nI 1) dX6_word_62 rfl rfl ?_
          refine j_goto (tgt := 67) dX6_word_63 (by decide) ?_
          refine j_istore_n (pc' := 68) (lv' := [_, _, _]) dX6_word_67 rfl (by decide) rfl ?_
          refine j_goto (tgt := 197) dX6_word_68 (by decide) ?_
          refine ct_post_i (fun r I' hq => ?_) (lp_X6_word (b := true) hs (by first | exact hL | (simp (disch := omega) only [pk_un]; exact hL)) hL8 (A := _) (by first | exact hA0 | exact pk_us) (by repeat (first | exact hA | assumption | refine tkA_le ?_ (by first | assumption | decide) | refine sq_le _ _ ?_ (by decide))) (by first | exact hD | (simp (disch := omega) only [pk_un]; exact hD)) hD2 rfl)
          simp only [wdP, sqk, sq_one, sq_two, c10, c35, c50, c59, reduceIte, Bool.false_eq_true, and_true, and_false, true_and, false_and, not_true_eq_false, not_false_eq_true, decide_true, decide_false, eq_self, or_true, or_false, true_or, false_or, ne_eq]
          try rw [upd_upd] at hq
          exact hq
  ·
    refine j_iconst (pc' := 14) (v := nI 1) dX6_word_13 rfl rfl ?_
    refine j_istore_n (pc' := 15) (lv' := [_, _, _]) dX6_word_14 rfl (by decide) rfl ?_
    refine j_aload_n (pc' := 16) dX6_word_15 rfl rfl ?_
    refine j_bipush (pc' := 18) (v := nI 97) dX6_word_16 rfl rfl ?_
    refine j_bipush (pc' := 20) (v := nI 99) dX6_word_18 rfl rfl ?_
    refine j_bipush (pc' := 22) (v := nI 107) dX6_word_20 rfl rfl ?_
    refine j_cVi (pc' := 25) m_X6_152 (c_X6_three hs (by first | exact hL | (simp (disch := omega) only [pk_un]; exact hL)) hL8 (by first | exact hA0 | exact pk_us) (by repeat (first | exact hA | assumption | refine tkA_le ?_ (by first | assumption | decide) | refine sq_le _ _ ?_ (by decide))) (by decide) (by decide) (by decide)) (by assumption) (by decide) rfl rfl rfl ⟨Nat.le_of_ble_eq_true rfl, Nat.le_of_ble_eq_true rfl⟩ ⟨Nat.zero_le _, Nat.zero_le _⟩ (Nat.le_of_ble_eq_true rfl) dX6_word_22 rfl (fun x1 I1 hq => ?_)
    obtain ⟨rfl, rfl⟩ := hq
    try rw [upd_upd]
    refine j_istore_n (pc' := 26) (lv' := [_, _, _]) dX6_word_25 rfl (by decide) rfl ?_
    refine j_goto (tgt := 197) dX6_word_26 (by decide) ?_
    refine ct_post_i (fun r I' hq => ?_) (lp_X6_word hs (by first | exact hL | (simp (disch := omega) only [pk_un]; exact hL)) hL8 (A := _) (by first | exact hA0 | exact pk_us) (by repeat (first | exact hA | assumption | refine tkA_le ?_ (by first | assumption | decide) | refine sq_le _ _ ?_ (by decide))) (by first | exact hD | (simp (disch := omega) only [pk_un]; exact hD)) hD2 rfl)
    simp only [wdP, sqk, sq_one, sq_two, c10, reduceIte, Bool.false_eq_true, and_true, and_false, true_and, false_and, not_true_eq_false, not_false_eq_true, decide_true, decide_false, eq_self, or_true, or_false, true_or, false_or, ne_eq]
    try rw [upd_upd] at hq
    exact hq
