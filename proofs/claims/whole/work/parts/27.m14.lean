/-- one value more: how often in alarm, the count, in alarm or not -/
def plS (v : Nat → Int32) (i : Nat) (dead x : Int32) (s : Int32 × Int32 × Bool) : Int32 × Int32 × Bool :=
  if s.2.2 = true then
    if (if sCl (v (176 + 56 * i + 0)) (v (176 + 56 * i + 1)) dead x = true then s.2.1 + nI 1 else nI 0) ≤ v (176 + 56 * i + 4) then (s.1, (if sCl (v (176 + 56 * i + 0)) (v (176 + 56 * i + 1)) dead x = true then s.2.1 + nI 1 else nI 0), true)
    else (s.1 + nI 0, nI 0, false)
  else
    if (if sOv (v (176 + 56 * i + 0)) (v (176 + 56 * i + 1)) x = true then s.2.1 + nI 1 else nI 0) ≤ v (176 + 56 * i + 3) then (s.1, (if sOv (v (176 + 56 * i + 0)) (v (176 + 56 * i + 1)) x = true then s.2.1 + nI 1 else nI 0), false)
    else (s.1 + nI 1, nI 0, true)
/-- the values from the place b on, j of them -/
def plF (v : Nat → Int32) (i : Nat) (dead : Int32) (b : Nat) : Nat → Int32 × Int32 × Bool
  | 0 => (nI 0, nI 0, false)
  | j + 1 => plS v i dead (v (176 + 56 * i + (16 + (b + j) % 40))) (plF v i dead b j)
def plays (v : Nat → Int32) (i : Nat) (dead : Int32) (K : Nat) : Int32 := (plF v i dead (K - (if K < 40 then K else 40)) (if K < 40 then K else 40)).1

set_option maxRecDepth 100000 in
set_option maxHeartbeats 4000000 in
theorem lp_X6_plays {E : jx_E} {l : Launch} {n : Nat} {kd : jx_K} {R : jx_R} {I0 : jx_I} {m : Nat} {F v a p o t c : Nat → Int32} {b nn : Nat} (hs : sMd kd R m) {i K : Nat} {dead : Int32} (hi : i < 16) (hK : v (176 + 56 * i + 15) = nI K) (hK1 : K ≤ 1000000) (hb : b + nn = K) (hn40 : nn ≤ 40) : ∀ (z j : Nat), j ≤ nn → z + j = nn + 1 → ∀ (tm ct : Int32) (on : Bool) (z6 : Int32), plF v i dead b j = (tm, ct, on) → z6 = bi on → ∀ u1 u2 : Option Value, jx_J E l cX6_plays 10 (some .int) RX6 false (jx_rm 2) 0 0 (jx_Q0 n kd R (jx_Pi (fun r I' => r = (plF v i dead b nn).1 ∧ I' = mI I0 m F v a p o t c))) 0 0 n kd R (mI I0 m F v a p o t c) 45 [some (.ref m), some (.int (nI i)), some (.int dead), some (.int (nI nn)), some (.int tm), some (.int ct), some (.int z6), some (.int (nI (b + j))), u1, u2] [] := by
  obtain ⟨K0, K1, K2, K3, K4, K5, K6, R0, R1, R2, R4, R6, R10⟩ := id hs
  intro z
  induction z with
  | zero => intro j hj hz; omega
  | succ z ih =>
    intro j hj hz tm ct on z6 hst hz6 u1 u2
    subst hz6
    have hm40 : (b + j) % 40 < 40 := Nat.mod_lt _ (by decide)
    refine j_iload (pc' := 47) dX6_plays_45 rfl rfl ?_
    refine j_aload_n (pc' := 48) dX6_plays_47 rfl rfl ?_
    refine j_iload_n (pc' := 49) dX6_plays_48 rfl rfl ?_
    refine j_bipush (pc' := 51) (v := nI 15) dX6_plays_49 rfl rfl ?_
    refine j_cVi (pc' := 54) m_X6_59 (c_X6_ofv hs (by omega) (by omega) hK) (by assumption) (by decide) rfl rfl rfl ⟨Nat.le_of_ble_eq_true rfl, Nat.le_of_ble_eq_true rfl⟩ ⟨Nat.zero_le _, Nat.zero_le _⟩ (Nat.le_of_ble_eq_true rfl) dX6_plays_51 rfl (fun x1 I1 hq => ?_)
    obtain ⟨rfl, rfl⟩ := hq
    first | refine j_icmp_geN' (tgt := 188) (pc' := 57) (by with_reducible rfl) (by with_reducible rfl) (by omega) (by omega) dX6_plays_54 rfl (by decide) (fun c54 => ?_) (fun c54 => ?_) | refine j_icmp_ge (tgt := 188) (pc' := 57) dX6_plays_54 rfl (by decide) (fun c54 => ?_) (fun c54 => ?_)
    ·
      refine j_iload (pc' := 190) dX6_plays_188 rfl rfl ?_
      refine j_reti dX6_plays_190 rfl (by first | rfl | exact bi_n _) ?_
      have : j = nn := by omega
      subst this
      exact ⟨by rw [hst], rfl⟩
    ·
      refine j_aload_n (pc' := 58) dX6_plays_57 rfl rfl ?_
      refine j_iload_n (pc' := 59) dX6_plays_58 rfl rfl ?_
      refine j_bipush (pc' := 61) (v := nI 16) dX6_plays_59 rfl rfl ?_
      refine j_iload (pc' := 63) dX6_plays_61 rfl rfl ?_
      refine j_bipush (pc' := 65) (v := nI 40) dX6_plays_63 rfl rfl ?_
      refine j_iremN' (pc' := 66) (by with_reducible rfl) (by with_reducible rfl) (by omega) (by omega) (by omega) dX6_plays_65 rfl ?_
      first | refine j_iaddN' (pc' := 67) (by with_reducible rfl) (by with_reducible rfl) dX6_plays_66 rfl ?_ | refine j_iadd (pc' := 67) dX6_plays_66 rfl ?_
      refine j_cVi (pc' := 70) m_X6_59 (c_X6_ofv hs (by omega) (by omega) rfl) (by assumption) (by decide) rfl rfl rfl ⟨Nat.le_of_ble_eq_true rfl, Nat.le_of_ble_eq_true rfl⟩ ⟨Nat.zero_le _, Nat.zero_le _⟩ (Nat.le_of_ble_eq_true rfl) dX6_plays_67 rfl (fun x1 I1 hq => ?_)
      obtain ⟨rfl, rfl⟩ := hq
      refine j_istore (pc' := 72) (lv' := [_, _, _, _, _, _, _, _, _, _]) dX6_plays_70 rfl (by decide) rfl ?_
      refine j_iload (pc' := 74) dX6_plays_72 rfl rfl ?_
      first | refine j_if_eqB' (tgt := 98) (pc' := 77) (by with_reducible rfl) dX6_plays_74 rfl (by decide) (fun c74 => ?_) (fun c74 => ?_) | refine j_if_eqN' (tgt := 98) (pc' := 77) (by with_reducible rfl) (by omega) dX6_plays_74 rfl (by decide) (fun c74 => ?_) (fun c74 => ?_) | refine j_if_eq (tgt := 98) (pc' := 77) dX6_plays_74 rfl (by decide) (fun c74 => ?_) (fun c74 => ?_)
      ·
        subst c74
        refine j_aload_n (pc' := 99) dX6_plays_98 rfl rfl ?_
        refine j_iload_n (pc' := 100) dX6_plays_99 rfl rfl ?_
        refine j_iconst (pc' := 101) (v := nI 0) dX6_plays_100 rfl rfl ?_
        refine j_cVi (pc' := 104) m_X6_59 (c_X6_ofv hs (by omega) (by omega) rfl) (by assumption) (by decide) rfl rfl rfl ⟨Nat.le_of_ble_eq_true rfl, Nat.le_of_ble_eq_true rfl⟩ ⟨Nat.zero_le _, Nat.zero_le _⟩ (Nat.le_of_ble_eq_true rfl) dX6_plays_101 rfl (fun x1 I1 hq => ?_)
        obtain ⟨rfl, rfl⟩ := hq
        refine j_aload_n (pc' := 105) dX6_plays_104 rfl rfl ?_
        refine j_iload_n (pc' := 106) dX6_plays_105 rfl rfl ?_
        refine j_iconst (pc' := 107) (v := nI 1) dX6_plays_106 rfl rfl ?_
        refine j_cVi (pc' := 110) m_X6_59 (c_X6_ofv hs (by omega) (by omega) rfl) (by assumption) (by decide) rfl rfl rfl ⟨Nat.le_of_ble_eq_true rfl, Nat.le_of_ble_eq_true rfl⟩ ⟨Nat.zero_le _, Nat.zero_le _⟩ (Nat.le_of_ble_eq_true rfl) dX6_plays_107 rfl (fun x1 I1 hq => ?_)
        obtain ⟨rfl, rfl⟩ := hq
        refine j_iload (pc' := 112) dX6_plays_110 rfl rfl ?_
        refine j_cSi (pc' := 115) m_X6_93 (c_X6_isOver E l n kd R _ _ _ _) rfl rfl ⟨Nat.le_of_ble_eq_true rfl, Nat.le_of_ble_eq_true rfl⟩ ⟨Nat.zero_le _, Nat.zero_le _⟩ (Nat.le_of_ble_eq_true rfl) dX6_plays_112 rfl (fun x1 I1 hq => ?_)
        obtain ⟨rfl, rfl⟩ := hq
        refine j_istore (pc' := 117) (lv' := [_, _, _, _, _, _, _, _, _, _]) dX6_plays_115 rfl (by decide) rfl ?_
        refine j_iload (pc' := 119) dX6_plays_117 rfl rfl ?_
        first | refine j_if_eqB' (tgt := 129) (pc' := 122) (by with_reducible rfl) dX6_plays_119 rfl (by decide) (fun c119 => ?_) (fun c119 => ?_) | refine j_if_eqN' (tgt := 129) (pc' := 122) (by with_reducible rfl) (by omega) dX6_plays_119 rfl (by decide) (fun c119 => ?_) (fun c119 => ?_) | refine j_if_eq (tgt := 129) (pc' := 122) dX6_plays_119 rfl (by decide) (fun c119 => ?_) (fun c119 => ?_)
        ·
          skip
          refine j_iconst (pc' := 130) (v := nI 0) dX6_plays_129 rfl rfl ?_
          refine j_istore (pc' := 132) (lv' := [_, _, _, _, _, _, _, _, _, _]) dX6_plays_130 rfl (by decide) rfl ?_
          refine j_iload (pc' := 134) dX6_plays_132 rfl rfl ?_
          refine j_aload_n (pc' := 135) dX6_plays_134 rfl rfl ?_
          refine j_iload_n (pc' := 136) dX6_plays_135 rfl rfl ?_
          refine j_iload (pc' := 138) dX6_plays_136 rfl rfl ?_
          first | refine j_if_eqB' (tgt := 145) (pc' := 141) (by with_reducible rfl) dX6_plays_138 rfl (by decide) (fun c138 => ?_) (fun c138 => ?_) | refine j_if_eqN' (tgt := 145) (pc' := 141) (by with_reducible rfl) (by omega) dX6_plays_138 rfl (by decide) (fun c138 => ?_) (fun c138 => ?_) | refine j_if_eq (tgt := 145) (pc' := 141) dX6_plays_138 rfl (by decide) (fun c138 => ?_) (fun c138 => ?_)
          ·
            skip
            refine j_iconst (pc' := 146) (v := nI 3) dX6_plays_145 rfl rfl ?_
            refine j_cVi (pc' := 149) m_X6_59 (c_X6_ofv hs (by omega) (by omega) rfl) (by assumption) (by decide) rfl rfl rfl ⟨Nat.le_of_ble_eq_true rfl, Nat.le_of_ble_eq_true rfl⟩ ⟨Nat.zero_le _, Nat.zero_le _⟩ (Nat.le_of_ble_eq_true rfl) dX6_plays_146 rfl (fun x1 I1 hq => ?_)
            obtain ⟨rfl, rfl⟩ := hq
            first | refine j_icmp_leN' (tgt := 182) (pc' := 152) (by with_reducible rfl) (by with_reducible rfl) (by omega) (by omega) dX6_plays_149 rfl (by decide) (fun c149 => ?_) (fun c149 => ?_) | refine j_icmp_le (tgt := 182) (pc' := 152) dX6_plays_149 rfl (by decide) (fun c149 => ?_) (fun c149 => ?_)
            ·
              skip
              first | refine j_iincN (pc' := 185) (lv' := [_, _, _, _, _, _, _, _, _, _]) dX6_plays_182 rfl rfl (by decide) rfl ?_ | refine j_iinc (pc' := 185) (lv' := [_, _, _, _, _, _, _, _, _, _]) dX6_plays_182 rfl rfl rfl (by decide) rfl ?_
              refine j_goto (tgt := 45) dX6_plays_185 (by decide) ?_
              have e : plF v i dead b (j + 1) = plS v i dead (v (176 + 56 * i + (16 + (b + j) % 40))) (plF v i dead b j) := rfl
              rw [hst, plS] at e
              simp only [c119, reduceIte, Bool.false_eq_true] at e
              rw [if_pos c149] at e
              exact ih (j + 1) (by omega) (by omega) _ _ false _ e rfl _ _
            ·
              skip
              refine j_iload (pc' := 154) dX6_plays_152 rfl rfl ?_
              refine j_iload (pc' := 156) dX6_plays_154 rfl rfl ?_
              first | refine j_if_eqB' (tgt := 163) (pc' := 159) (by with_reducible rfl) dX6_plays_156 rfl (by decide) (fun c156 => ?_) (fun c156 => ?_) | refine j_if_eqN' (tgt := 163) (pc' := 159) (by with_reducible rfl) (by omega) dX6_plays_156 rfl (by decide) (fun c156 => ?_) (fun c156 => ?_) | refine j_if_eq (tgt := 163) (pc' := 159) dX6_plays_156 rfl (by decide) (fun c156 => ?_) (fun c156 => ?_)
              ·
                skip
                refine j_iconst (pc' := 164) (v := nI 1) dX6_plays_163 rfl rfl ?_
                refine j_iadd (pc' := 165) dX6_plays_164 rfl ?_
                refine j_istore (pc' := 167) (lv' := [_, _, _, _, _, _, _, _, _, _]) dX6_plays_165 rfl (by decide) rfl ?_
                refine j_iload (pc' := 169) dX6_plays_167 rfl rfl ?_
                first | refine j_if_neB' (tgt := 176) (pc' := 172) (by with_reducible rfl) dX6_plays_169 rfl (by decide) (fun c169 => ?_) (fun c169 => ?_) | refine j_if_neN' (tgt := 176) (pc' := 172) (by with_reducible rfl) (by omega) dX6_plays_169 rfl (by decide) (fun c169 => ?_) (fun c169 => ?_) | refine j_if_ne (tgt := 176) (pc' := 172) dX6_plays_169 rfl (by decide) (fun c169 => ?_) (fun c169 => ?_)
                ·
                  exact absurd c169 (by decide)
                ·
                  skip
                  refine j_iconst (pc' := 173) (v := nI 1) dX6_plays_172 rfl rfl ?_
                  refine j_goto (tgt := 177) dX6_plays_173 (by decide) ?_
                  refine j_istore (pc' := 179) (lv' := [_, _, _, _, _, _, _, _, _, _]) dX6_plays_177 rfl (by decide) rfl ?_
                  refine j_iconst (pc' := 180) (v := nI 0) dX6_plays_179 rfl rfl ?_
                  refine j_istore (pc' := 182) (lv' := [_, _, _, _, _, _, _, _, _, _]) dX6_plays_180 rfl (by decide) rfl ?_
                  first | refine j_iincN (pc' := 185) (lv' := [_, _, _, _, _, _, _, _, _, _]) dX6_plays_182 rfl rfl (by decide) rfl ?_ | refine j_iinc (pc' := 185) (lv' := [_, _, _, _, _, _, _, _, _, _]) dX6_plays_182 rfl rfl rfl (by decide) rfl ?_
                  refine j_goto (tgt := 45) dX6_plays_185 (by decide) ?_
                  have e : plF v i dead b (j + 1) = plS v i dead (v (176 + 56 * i + (16 + (b + j) % 40))) (plF v i dead b j) := rfl
                  rw [hst, plS] at e
                  simp only [c119, reduceIte, Bool.false_eq_true] at e
                  rw [if_neg c149] at e
                  exact ih (j + 1) (by omega) (by omega) _ _ true _ e rfl _ _
              ·
                exact absurd c156 (by decide)
          ·
            exact absurd c138 (by decide)
        ·
          skip
          refine j_iload (pc' := 124) dX6_plays_122 rfl rfl ?_
          refine j_iconst (pc' := 125) (v := nI 1) dX6_plays_124 rfl rfl ?_
          refine j_iadd (pc' := 126) dX6_plays_125 rfl ?_
          refine j_goto (tgt := 130) dX6_plays_126 (by decide) ?_
          refine j_istore (pc' := 132) (lv' := [_, _, _, _, _, _, _, _, _, _]) dX6_plays_130 rfl (by decide) rfl ?_
          refine j_iload (pc' := 134) dX6_plays_132 rfl rfl ?_
          refine j_aload_n (pc' := 135) dX6_plays_134 rfl rfl ?_
          refine j_iload_n (pc' := 136) dX6_plays_135 rfl rfl ?_
          refine j_iload (pc' := 138) dX6_plays_136 rfl rfl ?_
          first | refine j_if_eqB' (tgt := 145) (pc' := 141) (by with_reducible rfl) dX6_plays_138 rfl (by decide) (fun c138 => ?_) (fun c138 => ?_) | refine j_if_eqN' (tgt := 145) (pc' := 141) (by with_reducible rfl) (by omega) dX6_plays_138 rfl (by decide) (fun c138 => ?_) (fun c138 => ?_) | refine j_if_eq (tgt := 145) (pc' := 141) dX6_plays_138 rfl (by decide) (fun c138 => ?_) (fun c138 => ?_)
          ·
            skip
            refine j_iconst (pc' := 146) (v := nI 3) dX6_plays_145 rfl rfl ?_
            refine j_cVi (pc' := 149) m_X6_59 (c_X6_ofv hs (by omega) (by omega) rfl) (by assumption) (by decide) rfl rfl rfl ⟨Nat.le_of_ble_eq_true rfl, Nat.le_of_ble_eq_true rfl⟩ ⟨Nat.zero_le _, Nat.zero_le _⟩ (Nat.le_of_ble_eq_true rfl) dX6_plays_146 rfl (fun x1 I1 hq => ?_)
            obtain ⟨rfl, rfl⟩ := hq
            first | refine j_icmp_leN' (tgt := 182) (pc' := 152) (by with_reducible rfl) (by with_reducible rfl) (by omega) (by omega) dX6_plays_149 rfl (by decide) (fun c149 => ?_) (fun c149 => ?_) | refine j_icmp_le (tgt := 182) (pc' := 152) dX6_plays_149 rfl (by decide) (fun c149 => ?_) (fun c149 => ?_)
            ·
              skip
              first | refine j_iincN (pc' := 185) (lv' := [_, _, _, _, _, _, _, _, _, _]) dX6_plays_182 rfl rfl (by decide) rfl ?_ | refine j_iinc (pc' := 185) (lv' := [_, _, _, _, _, _, _, _, _, _]) dX6_plays_182 rfl rfl rfl (by decide) rfl ?_
              refine j_goto (tgt := 45) dX6_plays_185 (by decide) ?_
              have e : plF v i dead b (j + 1) = plS v i dead (v (176 + 56 * i + (16 + (b + j) % 40))) (plF v i dead b j) := rfl
              rw [hst, plS] at e
              simp only [c119, reduceIte, Bool.false_eq_true] at e
              rw [if_pos c149] at e
              exact ih (j + 1) (by omega) (by omega) _ _ false _ e rfl _ _
            ·
              skip
              refine j_iload (pc' := 154) dX6_plays_152 rfl rfl ?_
              refine j_iload (pc' := 156) dX6_plays_154 rfl rfl ?_
              first | refine j_if_eqB' (tgt := 163) (pc' := 159) (by with_reducible rfl) dX6_plays_156 rfl (by decide) (fun c156 => ?_) (fun c156 => ?_) | refine j_if_eqN' (tgt := 163) (pc' := 159) (by with_reducible rfl) (by omega) dX6_plays_156 rfl (by decide) (fun c156 => ?_) (fun c156 => ?_) | refine j_if_eq (tgt := 163) (pc' := 159) dX6_plays_156 rfl (by decide) (fun c156 => ?_) (fun c156 => ?_)
              ·
                skip
                refine j_iconst (pc' := 164) (v := nI 1) dX6_plays_163 rfl rfl ?_
                refine j_iadd (pc' := 165) dX6_plays_164 rfl ?_
                refine j_istore (pc' := 167) (lv' := [_, _, _, _, _, _, _, _, _, _]) dX6_plays_165 rfl (by decide) rfl ?_
                refine j_iload (pc' := 169) dX6_plays_167 rfl rfl ?_
                first | refine j_if_neB' (tgt := 176) (pc' := 172) (by with_reducible rfl) dX6_plays_169 rfl (by decide) (fun c169 => ?_) (fun c169 => ?_) | refine j_if_neN' (tgt := 176) (pc' := 172) (by with_reducible rfl) (by omega) dX6_plays_169 rfl (by decide) (fun c169 => ?_) (fun c169 => ?_) | refine j_if_ne (tgt := 176) (pc' := 172) dX6_plays_169 rfl (by decide) (fun c169 => ?_) (fun c169 => ?_)
                ·
                  exact absurd c169 (by decide)
                ·
                  skip
                  refine j_iconst (pc' := 173) (v := nI 1) dX6_plays_172 rfl rfl ?_
                  refine j_goto (tgt := 177) dX6_plays_173 (by decide) ?_
                  refine j_istore (pc' := 179) (lv' := [_, _, _, _, _, _, _, _, _, _]) dX6_plays_177 rfl (by decide) rfl ?_
                  refine j_iconst (pc' := 180) (v := nI 0) dX6_plays_179 rfl rfl ?_
                  refine j_istore (pc' := 182) (lv' := [_, _, _, _, _, _, _, _, _, _]) dX6_plays_180 rfl (by decide) rfl ?_
                  first | refine j_iincN (pc' := 185) (lv' := [_, _, _, _, _, _, _, _, _, _]) dX6_plays_182 rfl rfl (by decide) rfl ?_ | refine j_iinc (pc' := 185) (lv' := [_, _, _, _, _, _, _, _, _, _]) dX6_plays_182 rfl rfl rfl (by decide) rfl ?_
                  refine j_goto (tgt := 45) dX6_plays_185 (by decide) ?_
                  have e : plF v i dead b (j + 1) = plS v i dead (v (176 + 56 * i + (16 + (b + j) % 40))) (plF v i dead b j) := rfl
                  rw [hst, plS] at e
                  simp only [c119, reduceIte, Bool.false_eq_true] at e
                  rw [if_neg c149] at e
                  exact ih (j + 1) (by omega) (by omega) _ _ true _ e rfl _ _
              ·
                exact absurd c156 (by decide)
          ·
            exact absurd c138 (by decide)
      ·
        subst c74
        refine j_aload_n (pc' := 78) dX6_plays_77 rfl rfl ?_
        refine j_iload_n (pc' := 79) dX6_plays_78 rfl rfl ?_
        refine j_iconst (pc' := 80) (v := nI 0) dX6_plays_79 rfl rfl ?_
        refine j_cVi (pc' := 83) m_X6_59 (c_X6_ofv hs (by omega) (by omega) rfl) (by assumption) (by decide) rfl rfl rfl ⟨Nat.le_of_ble_eq_true rfl, Nat.le_of_ble_eq_true rfl⟩ ⟨Nat.zero_le _, Nat.zero_le _⟩ (Nat.le_of_ble_eq_true rfl) dX6_plays_80 rfl (fun x1 I1 hq => ?_)
        obtain ⟨rfl, rfl⟩ := hq
        refine j_aload_n (pc' := 84) dX6_plays_83 rfl rfl ?_
        refine j_iload_n (pc' := 85) dX6_plays_84 rfl rfl ?_
        refine j_iconst (pc' := 86) (v := nI 1) dX6_plays_85 rfl rfl ?_
        refine j_cVi (pc' := 89) m_X6_59 (c_X6_ofv hs (by omega) (by omega) rfl) (by assumption) (by decide) rfl rfl rfl ⟨Nat.le_of_ble_eq_true rfl, Nat.le_of_ble_eq_true rfl⟩ ⟨Nat.zero_le _, Nat.zero_le _⟩ (Nat.le_of_ble_eq_true rfl) dX6_plays_86 rfl (fun x1 I1 hq => ?_)
        obtain ⟨rfl, rfl⟩ := hq
        refine j_iload_n (pc' := 90) dX6_plays_89 rfl rfl ?_
        refine j_iload (pc' := 92) dX6_plays_90 rfl rfl ?_
        refine j_cSi (pc' := 95) m_X6_96 (c_X6_isClear E l n kd R _ _ _ _ _) rfl rfl ⟨Nat.le_of_ble_eq_true rfl, Nat.le_of_ble_eq_true rfl⟩ ⟨Nat.zero_le _, Nat.zero_le _⟩ (Nat.le_of_ble_eq_true rfl) dX6_plays_92 rfl (fun x1 I1 hq => ?_)
        obtain ⟨rfl, rfl⟩ := hq
        refine j_goto (tgt := 115) dX6_plays_95 (by decide) ?_
        refine j_istore (pc' := 117) (lv' := [_, _, _, _, _, _, _, _, _, _]) dX6_plays_115 rfl (by decide) rfl ?_
        refine j_iload (pc' := 119) dX6_plays_117 rfl rfl ?_
        first | refine j_if_eqB' (tgt := 129) (pc' := 122) (by with_reducible rfl) dX6_plays_119 rfl (by decide) (fun c119 => ?_) (fun c119 => ?_) | refine j_if_eqN' (tgt := 129) (pc' := 122) (by with_reducible rfl) (by omega) dX6_plays_119 rfl (by decide) (fun c119 => ?_) (fun c119 => ?_) | refine j_if_eq (tgt := 129) (pc' := 122) dX6_plays_119 rfl (by decide) (fun c119 => ?_) (fun c119 => ?_)
        ·
          skip
          refine j_iconst (pc' := 130) (v := nI 0) dX6_plays_129 rfl rfl ?_
          refine j_istore (pc' := 132) (lv' := [_, _, _, _, _, _, _, _, _, _]) dX6_plays_130 rfl (by decide) rfl ?_
          refine j_iload (pc' := 134) dX6_plays_132 rfl rfl ?_
          refine j_aload_n (pc' := 135) dX6_plays_134 rfl rfl ?_
          refine j_iload_n (pc' := 136) dX6_plays_135 rfl rfl ?_
          refine j_iload (pc' := 138) dX6_plays_136 rfl rfl ?_
          first | refine j_if_eqB' (tgt := 145) (pc' := 141) (by with_reducible rfl) dX6_plays_138 rfl (by decide) (fun c138 => ?_) (fun c138 => ?_) | refine j_if_eqN' (tgt := 145) (pc' := 141) (by with_reducible rfl) (by omega) dX6_plays_138 rfl (by decide) (fun c138 => ?_) (fun c138 => ?_) | refine j_if_eq (tgt := 145) (pc' := 141) dX6_plays_138 rfl (by decide) (fun c138 => ?_) (fun c138 => ?_)
          ·
            exact absurd c138 (by decide)
          ·
            skip
            refine j_iconst (pc' := 142) (v := nI 4) dX6_plays_141 rfl rfl ?_
            refine j_goto (tgt := 146) dX6_plays_142 (by decide) ?_
            refine j_cVi (pc' := 149) m_X6_59 (c_X6_ofv hs (by omega) (by omega) rfl) (by assumption) (by decide) rfl rfl rfl ⟨Nat.le_of_ble_eq_true rfl, Nat.le_of_ble_eq_true rfl⟩ ⟨Nat.zero_le _, Nat.zero_le _⟩ (Nat.le_of_ble_eq_true rfl) dX6_plays_146 rfl (fun x1 I1 hq => ?_)
            obtain ⟨rfl, rfl⟩ := hq
            first | refine j_icmp_leN' (tgt := 182) (pc' := 152) (by with_reducible rfl) (by with_reducible rfl) (by omega) (by omega) dX6_plays_149 rfl (by decide) (fun c149 => ?_) (fun c149 => ?_) | refine j_icmp_le (tgt := 182) (pc' := 152) dX6_plays_149 rfl (by decide) (fun c149 => ?_) (fun c149 => ?_)
            ·
              skip
              first | refine j_iincN (pc' := 185) (lv' := [_, _, _, _, _, _, _, _, _, _]) dX6_plays_182 rfl rfl (by decide) rfl ?_ | refine j_iinc (pc' := 185) (lv' := [_, _, _, _, _, _, _, _, _, _]) dX6_plays_182 rfl rfl rfl (by decide) rfl ?_
              refine j_goto (tgt := 45) dX6_plays_185 (by decide) ?_
              have e : plF v i dead b (j + 1) = plS v i dead (v (176 + 56 * i + (16 + (b + j) % 40))) (plF v i dead b j) := rfl
              rw [hst, plS] at e
              simp only [c119, reduceIte, Bool.false_eq_true] at e
              rw [if_pos c149] at e
              exact ih (j + 1) (by omega) (by omega) _ _ true _ e rfl _ _
            ·
              skip
              refine j_iload (pc' := 154) dX6_plays_152 rfl rfl ?_
              refine j_iload (pc' := 156) dX6_plays_154 rfl rfl ?_
              first | refine j_if_eqB' (tgt := 163) (pc' := 159) (by with_reducible rfl) dX6_plays_156 rfl (by decide) (fun c156 => ?_) (fun c156 => ?_) | refine j_if_eqN' (tgt := 163) (pc' := 159) (by with_reducible rfl) (by omega) dX6_plays_156 rfl (by decide) (fun c156 => ?_) (fun c156 => ?_) | refine j_if_eq (tgt := 163) (pc' := 159) dX6_plays_156 rfl (by decide) (fun c156 => ?_) (fun c156 => ?_)
              ·
                exact absurd c156 (by decide)
              ·
                skip
                refine j_iconst (pc' := 160) (v := nI 0) dX6_plays_159 rfl rfl ?_
                refine j_goto (tgt := 164) dX6_plays_160 (by decide) ?_
                refine j_iadd (pc' := 165) dX6_plays_164 rfl ?_
                refine j_istore (pc' := 167) (lv' := [_, _, _, _, _, _, _, _, _, _]) dX6_plays_165 rfl (by decide) rfl ?_
                refine j_iload (pc' := 169) dX6_plays_167 rfl rfl ?_
                first | refine j_if_neB' (tgt := 176) (pc' := 172) (by with_reducible rfl) dX6_plays_169 rfl (by decide) (fun c169 => ?_) (fun c169 => ?_) | refine j_if_neN' (tgt := 176) (pc' := 172) (by with_reducible rfl) (by omega) dX6_plays_169 rfl (by decide) (fun c169 => ?_) (fun c169 => ?_) | refine j_if_ne (tgt := 176) (pc' := 172) dX6_plays_169 rfl (by decide) (fun c169 => ?_) (fun c169 => ?_)
                ·
                  skip
                  refine j_iconst (pc' := 177) (v := nI 0) dX6_plays_176 rfl rfl ?_
                  refine j_istore (pc' := 179) (lv' := [_, _, _, _, _, _, _, _, _, _]) dX6_plays_177 rfl (by decide) rfl ?_
                  refine j_iconst (pc' := 180) (v := nI 0) dX6_plays_179 rfl rfl ?_
                  refine j_istore (pc' := 182) (lv' := [_, _, _, _, _, _, _, _, _, _]) dX6_plays_180 rfl (by decide) rfl ?_
                  first | refine j_iincN (pc' := 185) (lv' := [_, _, _, _, _, _, _, _, _, _]) dX6_plays_182 rfl rfl (by decide) rfl ?_ | refine j_iinc (pc' := 185) (lv' := [_, _, _, _, _, _, _, _, _, _]) dX6_plays_182 rfl rfl rfl (by decide) rfl ?_
                  refine j_goto (tgt := 45) dX6_plays_185 (by decide) ?_
                  have e : plF v i dead b (j + 1) = plS v i dead (v (176 + 56 * i + (16 + (b + j) % 40))) (plF v i dead b j) := rfl
                  rw [hst, plS] at e
                  simp only [c119, reduceIte, Bool.false_eq_true] at e
                  rw [if_neg c149] at e
                  exact ih (j + 1) (by omega) (by omega) _ _ false _ e rfl _ _
                ·
                  exact absurd c169 (by decide)
        ·
          skip
          refine j_iload (pc' := 124) dX6_plays_122 rfl rfl ?_
          refine j_iconst (pc' := 125) (v := nI 1) dX6_plays_124 rfl rfl ?_
          refine j_iadd (pc' := 126) dX6_plays_125 rfl ?_
          refine j_goto (tgt := 130) dX6_plays_126 (by decide) ?_
          refine j_istore (pc' := 132) (lv' := [_, _, _, _, _, _, _, _, _, _]) dX6_plays_130 rfl (by decide) rfl ?_
          refine j_iload (pc' := 134) dX6_plays_132 rfl rfl ?_
          refine j_aload_n (pc' := 135) dX6_plays_134 rfl rfl ?_
          refine j_iload_n (pc' := 136) dX6_plays_135 rfl rfl ?_
          refine j_iload (pc' := 138) dX6_plays_136 rfl rfl ?_
          first | refine j_if_eqB' (tgt := 145) (pc' := 141) (by with_reducible rfl) dX6_plays_138 rfl (by decide) (fun c138 => ?_) (fun c138 => ?_) | refine j_if_eqN' (tgt := 145) (pc' := 141) (by with_reducible rfl) (by omega) dX6_plays_138 rfl (by decide) (fun c138 => ?_) (fun c138 => ?_) | refine j_if_eq (tgt := 145) (pc' := 141) dX6_plays_138 rfl (by decide) (fun c138 => ?_) (fun c138 => ?_)
          ·
            exact absurd c138 (by decide)
          ·
            skip
            refine j_iconst (pc' := 142) (v := nI 4) dX6_plays_141 rfl rfl ?_
            refine j_goto (tgt := 146) dX6_plays_142 (by decide) ?_
            refine j_cVi (pc' := 149) m_X6_59 (c_X6_ofv hs (by omega) (by omega) rfl) (by assumption) (by decide) rfl rfl rfl ⟨Nat.le_of_ble_eq_true rfl, Nat.le_of_ble_eq_true rfl⟩ ⟨Nat.zero_le _, Nat.zero_le _⟩ (Nat.le_of_ble_eq_true rfl) dX6_plays_146 rfl (fun x1 I1 hq => ?_)
            obtain ⟨rfl, rfl⟩ := hq
            first | refine j_icmp_leN' (tgt := 182) (pc' := 152) (by with_reducible rfl) (by with_reducible rfl) (by omega) (by omega) dX6_plays_149 rfl (by decide) (fun c149 => ?_) (fun c149 => ?_) | refine j_icmp_le (tgt := 182) (pc' := 152) dX6_plays_149 rfl (by decide) (fun c149 => ?_) (fun c149 => ?_)
            ·
              skip
              first | refine j_iincN (pc' := 185) (lv' := [_, _, _, _, _, _, _, _, _, _]) dX6_plays_182 rfl rfl (by decide) rfl ?_ | refine j_iinc (pc' := 185) (lv' := [_, _, _, _, _, _, _, _, _, _]) dX6_plays_182 rfl rfl rfl (by decide) rfl ?_
              refine j_goto (tgt := 45) dX6_plays_185 (by decide) ?_
              have e : plF v i dead b (j + 1) = plS v i dead (v (176 + 56 * i + (16 + (b + j) % 40))) (plF v i dead b j) := rfl
              rw [hst, plS] at e
              simp only [c119, reduceIte, Bool.false_eq_true] at e
              rw [if_pos c149] at e
              exact ih (j + 1) (by omega) (by omega) _ _ true _ e rfl _ _
            ·
              skip
              refine j_iload (pc' := 154) dX6_plays_152 rfl rfl ?_
              refine j_iload (pc' := 156) dX6_plays_154 rfl rfl ?_
              first | refine j_if_eqB' (tgt := 163) (pc' := 159) (by with_reducible rfl) dX6_plays_156 rfl (by decide) (fun c156 => ?_) (fun c156 => ?_) | refine j_if_eqN' (tgt := 163) (pc' := 159) (by with_reducible rfl) (by omega) dX6_plays_156 rfl (by decide) (fun c156 => ?_) (fun c156 => ?_) | refine j_if_eq (tgt := 163) (pc' := 159) dX6_plays_156 rfl (by decide) (fun c156 => ?_) (fun c156 => ?_)
              ·
                exact absurd c156 (by decide)
              ·
                skip
                refine j_iconst (pc' := 160) (v := nI 0) dX6_plays_159 rfl rfl ?_
                refine j_goto (tgt := 164) dX6_plays_160 (by decide) ?_
                refine j_iadd (pc' := 165) dX6_plays_164 rfl ?_
                refine j_istore (pc' := 167) (lv' := [_, _, _, _, _, _, _, _, _, _]) dX6_plays_165 rfl (by decide) rfl ?_
                refine j_iload (pc' := 169) dX6_plays_167 rfl rfl ?_
                first | refine j_if_neB' (tgt := 176) (pc' := 172) (by with_reducible rfl) dX6_plays_169 rfl (by decide) (fun c169 => ?_) (fun c169 => ?_) | refine j_if_neN' (tgt := 176) (pc' := 172) (by with_reducible rfl) (by omega) dX6_plays_169 rfl (by decide) (fun c169 => ?_) (fun c169 => ?_) | refine j_if_ne (tgt := 176) (pc' := 172) dX6_plays_169 rfl (by decide) (fun c169 => ?_) (fun c169 => ?_)
                ·
                  skip
                  refine j_iconst (pc' := 177) (v := nI 0) dX6_plays_176 rfl rfl ?_
                  refine j_istore (pc' := 179) (lv' := [_, _, _, _, _, _, _, _, _, _]) dX6_plays_177 rfl (by decide) rfl ?_
                  refine j_iconst (pc' := 180) (v := nI 0) dX6_plays_179 rfl rfl ?_
                  refine j_istore (pc' := 182) (lv' := [_, _, _, _, _, _, _, _, _, _]) dX6_plays_180 rfl (by decide) rfl ?_
                  first | refine j_iincN (pc' := 185) (lv' := [_, _, _, _, _, _, _, _, _, _]) dX6_plays_182 rfl rfl (by decide) rfl ?_ | refine j_iinc (pc' := 185) (lv' := [_, _, _, _, _, _, _, _, _, _]) dX6_plays_182 rfl rfl rfl (by decide) rfl ?_
                  refine j_goto (tgt := 45) dX6_plays_185 (by decide) ?_
                  have e : plF v i dead b (j + 1) = plS v i dead (v (176 + 56 * i + (16 + (b + j) % 40))) (plF v i dead b j) := rfl
                  rw [hst, plS] at e
                  simp only [c119, reduceIte, Bool.false_eq_true] at e
                  rw [if_neg c149] at e
                  exact ih (j + 1) (by omega) (by omega) _ _ false _ e rfl _ _
                ·
                  exact absurd c169 (by decide)
set_option maxRecDepth 100000 in
set_option maxHeartbeats 4000000 in
theorem c_X6_plays {E : jx_E} {l : Launch} {n : Nat} {kd : jx_K} {R : jx_R} {I0 : jx_I} {m : Nat} {F v a p o t c : Nat → Int32} (hs : sMd kd R m) {i K : Nat} {dead : Int32} (hi : i < 16) (hK : v (176 + 56 * i + 15) = nI K) (hK1 : K ≤ 1000000) : jx_Ci E l yX6_plays cX6_plays 10 (some .int) 2 n kd R (mI I0 m F v a p o t c) [.ref m, .int (nI i), .int dead] (fun r I' => r = plays v i dead K ∧ I' = mI I0 m F v a p o t c) := by
  obtain ⟨K0, K1, K2, K3, K4, K5, K6, R0, R1, R2, R4, R6, R10⟩ := id hs
  refine jx_C0.ofJ RX6 [some (.ref m), some (.int (nI i)), some (.int dead), none, none, none, none, none, none, none] (by decide) rfl rfl (Nat.le_of_ble_eq_true rfl) rfl ?_
  refine j_aload_n (pc' := 1) dX6_plays_0 rfl rfl ?_
  refine j_iload_n (pc' := 2) dX6_plays_1 rfl rfl ?_
  refine j_bipush (pc' := 4) (v := nI 15) dX6_plays_2 rfl rfl ?_
  refine j_cVi (pc' := 7) m_X6_59 (c_X6_ofv hs (by omega) (by omega) hK) (by assumption) (by decide) rfl rfl rfl ⟨Nat.le_of_ble_eq_true rfl, Nat.le_of_ble_eq_true rfl⟩ ⟨Nat.zero_le _, Nat.zero_le _⟩ (Nat.le_of_ble_eq_true rfl) dX6_plays_4 rfl (fun x1 I1 hq => ?_)
  obtain ⟨rfl, rfl⟩ := hq
  refine j_bipush (pc' := 9) (v := nI 40) dX6_plays_7 rfl rfl ?_
  first | refine j_icmp_geN' (tgt := 22) (pc' := 12) (by with_reducible rfl) (by with_reducible rfl) (by omega) (by omega) dX6_plays_9 rfl (by decide) (fun c9 => ?_) (fun c9 => ?_) | refine j_icmp_ge (tgt := 22) (pc' := 12) dX6_plays_9 rfl (by decide) (fun c9 => ?_) (fun c9 => ?_)
  ·
    skip
    refine j_bipush (pc' := 24) (v := nI 40) dX6_plays_22 rfl rfl ?_
    refine j_istore_n (pc' := 25) (lv' := [_, _, _, _, _, _, _, _, _, _]) dX6_plays_24 rfl (by decide) rfl ?_
    refine j_iconst (pc' := 26) (v := nI 0) dX6_plays_25 rfl rfl ?_
    refine j_istore (pc' := 28) (lv' := [_, _, _, _, _, _, _, _, _, _]) dX6_plays_26 rfl (by decide) rfl ?_
    refine j_iconst (pc' := 29) (v := nI 0) dX6_plays_28 rfl rfl ?_
    refine j_istore (pc' := 31) (lv' := [_, _, _, _, _, _, _, _, _, _]) dX6_plays_29 rfl (by decide) rfl ?_
    refine j_iconst (pc' := 32) (v := nI 0) dX6_plays_31 rfl rfl ?_
    refine j_istore (pc' := 34) (lv' := [_, _, _, _, _, _, _, _, _, _]) dX6_plays_32 rfl (by decide) rfl ?_
    refine j_aload_n (pc' := 35) dX6_plays_34 rfl rfl ?_
    refine j_iload_n (pc' := 36) dX6_plays_35 rfl rfl ?_
    refine j_bipush (pc' := 38) (v := nI 15) dX6_plays_36 rfl rfl ?_
    refine j_cVi (pc' := 41) m_X6_59 (c_X6_ofv hs (by omega) (by omega) hK) (by assumption) (by decide) rfl rfl rfl ⟨Nat.le_of_ble_eq_true rfl, Nat.le_of_ble_eq_true rfl⟩ ⟨Nat.zero_le _, Nat.zero_le _⟩ (Nat.le_of_ble_eq_true rfl) dX6_plays_38 rfl (fun x1 I1 hq => ?_)
    obtain ⟨rfl, rfl⟩ := hq
    refine j_iload_n (pc' := 42) dX6_plays_41 rfl rfl ?_
    first | refine j_isubN' (pc' := 43) (by with_reducible rfl) (by with_reducible rfl) (by omega) dX6_plays_42 rfl ?_ | refine j_isub (pc' := 43) dX6_plays_42 rfl ?_
    refine j_istore (pc' := 45) (lv' := [_, _, _, _, _, _, _, _, _, _]) dX6_plays_43 rfl (by decide) rfl ?_
    have h := lp_X6_plays (E := E) (l := l) (n := n) (I0 := I0) (F := F) (v := v) (a := a) (p := p) (o := o) (t := t) (c := c) (dead := dead) (b := K - 40) (nn := 40) hs hi hK hK1 (by omega) (by omega) (40 + 1) 0 (by omega) (by omega) (nI 0) (nI 0) false (nI 0) rfl rfl none none
    have e : (if K < 40 then K else 40) = 40 := if_neg (by omega)
    rw [plays, e]
    exact h
  ·
    refine j_aload_n (pc' := 13) dX6_plays_12 rfl rfl ?_
    refine j_iload_n (pc' := 14) dX6_plays_13 rfl rfl ?_
    refine j_bipush (pc' := 16) (v := nI 15) dX6_plays_14 rfl rfl ?_
    refine j_cVi (pc' := 19) m_X6_59 (c_X6_ofv hs (by omega) (by omega) hK) (by assumption) (by decide) rfl rfl rfl ⟨Nat.le_of_ble_eq_true rfl, Nat.le_of_ble_eq_true rfl⟩ ⟨Nat.zero_le _, Nat.zero_le _⟩ (Nat.le_of_ble_eq_true rfl) dX6_plays_16 rfl (fun x1 I1 hq => ?_)
    obtain ⟨rfl, rfl⟩ := hq
    refine j_goto (tgt := 24) dX6_plays_19 (by decide) ?_
    refine j_istore_n (pc' := 25) (lv' := [_, _, _, _, _, _, _, _, _, _]) dX6_plays_24 rfl (by decide) rfl ?_
    refine j_iconst (pc' := 26) (v := nI 0) dX6_plays_25 rfl rfl ?_
    refine j_istore (pc' := 28) (lv' := [_, _, _, _, _, _, _, _, _, _]) dX6_plays_26 rfl (by decide) rfl ?_
    refine j_iconst (pc' := 29) (v := nI 0) dX6_plays_28 rfl rfl ?_
    refine j_istore (pc' := 31) (lv' := [_, _, _, _, _, _, _, _, _, _]) dX6_plays_29 rfl (by decide) rfl ?_
    refine j_iconst (pc' := 32) (v := nI 0) dX6_plays_31 rfl rfl ?_
    refine j_istore (pc' := 34) (lv' := [_, _, _, _, _, _, _, _, _, _]) dX6_plays_32 rfl (by decide) rfl ?_
    refine j_aload_n (pc' := 35) dX6_plays_34 rfl rfl ?_
    refine j_iload_n (pc' := 36) dX6_plays_35 rfl rfl ?_
    refine j_bipush (pc' := 38) (v := nI 15) dX6_plays_36 rfl rfl ?_
    refine j_cVi (pc' := 41) m_X6_59 (c_X6_ofv hs (by omega) (by omega) hK) (by assumption) (by decide) rfl rfl rfl ⟨Nat.le_of_ble_eq_true rfl, Nat.le_of_ble_eq_true rfl⟩ ⟨Nat.zero_le _, Nat.zero_le _⟩ (Nat.le_of_ble_eq_true rfl) dX6_plays_38 rfl (fun x1 I1 hq => ?_)
    obtain ⟨rfl, rfl⟩ := hq
    refine j_iload_n (pc' := 42) dX6_plays_41 rfl rfl ?_
    first | refine j_isubN' (pc' := 43) (by with_reducible rfl) (by with_reducible rfl) (by omega) dX6_plays_42 rfl ?_ | refine j_isub (pc' := 43) dX6_plays_42 rfl ?_
    refine j_istore (pc' := 45) (lv' := [_, _, _, _, _, _, _, _, _, _]) dX6_plays_43 rfl (by decide) rfl ?_
    have h := lp_X6_plays (E := E) (l := l) (n := n) (I0 := I0) (F := F) (v := v) (a := a) (p := p) (o := o) (t := t) (c := c) (dead := dead) (b := K - K) (nn := K) hs hi hK hK1 (by omega) (by omega) (K + 1) 0 (by omega) (by omega) (nI 0) (nI 0) false (nI 0) rfl rfl none none
    have e : (if K < 40 then K else 40) = K := if_pos (by omega)
    rw [plays, e]
    exact h
