set_option maxRecDepth 100000 in
set_option maxHeartbeats 4000000 in
theorem lp_X2_alarmsWith {E : jx_E} {l : Launch} {n : Nat} {kd : jx_K} {R : jx_R} {I : jx_I} {p : Nat} {v : Nat → Int32} {i : Nat} {b nn : Nat} (hp : sPt kd R p) (h : aPt I p v i) {K : Nat} {dead : Int32} (hK : v (176 + 56 * i + 15) = nI K) (hK1 : K ≤ 50000) (hb : b + nn = K) (hn40 : nn = 40 ∨ b = 0) (hnn : nn ≤ 40) {x2 : Int32} : ∀ (z j : Nat), j ≤ nn → z + j = nn + 1 → ∀ (tm ct : Int32) (on : Bool), plF v i dead b j = (tm, ct, on) → ∀ u1 u2 : Option Value, jx_J E l cX2_alarmsWith 9 (some .int) RX2 false (jx_rm 2) 0 0 (jx_Q0 n kd R (jx_Pi (fun r I' => r = (plF v i dead b nn).1 ∧ I' = I))) 0 0 n kd R (I) 32 [some (.ref p), some (.int dead), some (.int x2), some (.int (bi on)), some (.int ct), some (.int tm), some (.int (nI (b + j))), u1, u2] [] := by
  obtain ⟨K0, K1, K2, R0, R1⟩ := id hp
  obtain ⟨hst, h15, h7, h8, h9, h10, h11, h12, h13, h14, hvl⟩ := id h
  have s0 := hst 0 (by decide)
  have s1 := hst 1 (by decide)
  have s2 := hst 2 (by decide)
  have s3 := hst 3 (by decide)
  have s4 := hst 4 (by decide)
  have s5 := hst 5 (by decide)
  have s6 := hst 6 (by decide)
  intro z
  induction z with
  | zero => intro j hj hz; omega
  | succ z ih =>
    intro j hj hz tm ct on hpl u1 u2
    refine j_iload (pc' := 34) dX2_alarmsWith_32 rfl rfl ?_
    refine j_aload_n (pc' := 35) dX2_alarmsWith_34 rfl rfl ?_
    refine j_getIv (pc' := 38) f_X2_18 (by assumption) (by first | (simp (disch := omega) only [jx_upS, jx_upK, jx_upA, s0, s1, s2, s3, s4, s5, s6, h15, h7, h8, h9, h10, h11, h12, h13, h14, hK]; rfl) | rfl) dX2_alarmsWith_35 rfl ?_
    first | refine j_icmp_geN' (tgt := 133) (pc' := 41) (by with_reducible rfl) (by with_reducible rfl) (by omega) (by omega) dX2_alarmsWith_38 rfl (by decide) (fun c38 => ?_) (fun c38 => ?_) | refine j_icmp_ge (tgt := 133) (pc' := 41) dX2_alarmsWith_38 rfl (by decide) (fun c38 => ?_) (fun c38 => ?_)
    ·
      refine j_iload (pc' := 135) dX2_alarmsWith_133 rfl rfl ?_
      refine j_reti dX2_alarmsWith_135 rfl (by first | rfl | exact bi_n _) ?_
      have : j = nn := by omega
      subst this
      exact ⟨by rw [hpl], rfl⟩
    ·
      have hm40 : (b + j) % 40 < 40 := Nat.mod_lt _ (by decide)
      have hvx : I (p + 2) ((b + j) % 40) = v (176 + 56 * i + (16 + (b + j) % 40)) := hvl _ hm40 (by rw [hK, nI_clamp (by omega)]; omega)
      refine j_aload_n (pc' := 42) dX2_alarmsWith_41 rfl rfl ?_
      refine j_getR (pc' := 45) f_X2_15 (by assumption) (by assumption) dX2_alarmsWith_42 rfl ?_
      refine j_iload (pc' := 47) dX2_alarmsWith_45 rfl rfl ?_
      refine j_bipush (pc' := 49) (v := nI 40) dX2_alarmsWith_47 rfl rfl ?_
      refine j_iremN' (pc' := 50) (by with_reducible rfl) (by with_reducible rfl) (by omega) (by omega) (by omega) dX2_alarmsWith_49 rfl ?_
      refine j_ialdv (pc' := 51) (by assumption) rfl (by omega) (by omega) (by first | (simp (disch := omega) only [jx_upS, jx_upK, jx_upA, s0, s1, s2, s3, s4, s5, s6, h15, h7, h8, h9, h10, h11, h12, h13, h14, hK, hvx]; rfl) | rfl) dX2_alarmsWith_50 rfl ?_
      refine j_istore (pc' := 53) (lv' := [_, _, _, _, _, _, _, _, _]) dX2_alarmsWith_51 rfl (by decide) rfl ?_
      refine j_iload_n (pc' := 54) dX2_alarmsWith_53 rfl rfl ?_
      first | refine j_if_eqB' (tgt := 67) (pc' := 57) (by with_reducible rfl) dX2_alarmsWith_54 rfl (by decide) (fun c54 => ?_) (fun c54 => ?_) | refine j_if_eqN' (tgt := 67) (pc' := 57) (by with_reducible rfl) (by omega) dX2_alarmsWith_54 rfl (by decide) (fun c54 => ?_) (fun c54 => ?_) | refine j_if_eq (tgt := 67) (pc' := 57) dX2_alarmsWith_54 rfl (by decide) (fun c54 => ?_) (fun c54 => ?_)
      ·
        subst c54
        refine j_aload_n (pc' := 68) dX2_alarmsWith_67 rfl rfl ?_
        refine j_iload (pc' := 70) dX2_alarmsWith_68 rfl rfl ?_
        refine j_cVi (pc' := 73) m_X2_57 (c_X2_isOver hp h) (by assumption) (by decide) rfl rfl rfl ⟨Nat.le_of_ble_eq_true rfl, Nat.le_of_ble_eq_true rfl⟩ ⟨Nat.zero_le _, Nat.zero_le _⟩ (Nat.le_of_ble_eq_true rfl) dX2_alarmsWith_70 rfl (fun x1 I1 hq => ?_)
        obtain ⟨rfl, rfl⟩ := hq
        refine j_istore (pc' := 75) (lv' := [_, _, _, _, _, _, _, _, _]) dX2_alarmsWith_73 rfl (by decide) rfl ?_
        refine j_iload (pc' := 77) dX2_alarmsWith_75 rfl rfl ?_
        first | refine j_if_eqB' (tgt := 87) (pc' := 80) (by with_reducible rfl) dX2_alarmsWith_77 rfl (by decide) (fun c77 => ?_) (fun c77 => ?_) | refine j_if_eqN' (tgt := 87) (pc' := 80) (by with_reducible rfl) (by omega) dX2_alarmsWith_77 rfl (by decide) (fun c77 => ?_) (fun c77 => ?_) | refine j_if_eq (tgt := 87) (pc' := 80) dX2_alarmsWith_77 rfl (by decide) (fun c77 => ?_) (fun c77 => ?_)
        ·
          skip
          refine j_iconst (pc' := 88) (v := nI 0) dX2_alarmsWith_87 rfl rfl ?_
          refine j_istore (pc' := 90) (lv' := [_, _, _, _, _, _, _, _, _]) dX2_alarmsWith_88 rfl (by decide) rfl ?_
          refine j_iload (pc' := 92) dX2_alarmsWith_90 rfl rfl ?_
          refine j_aload_n (pc' := 93) dX2_alarmsWith_92 rfl rfl ?_
          refine j_iload_n (pc' := 94) dX2_alarmsWith_93 rfl rfl ?_
          refine j_cVi (pc' := 97) m_X2_65 (c_X2_delayOf (b := false) hp h) (by assumption) (by decide) rfl rfl rfl ⟨Nat.le_of_ble_eq_true rfl, Nat.le_of_ble_eq_true rfl⟩ ⟨Nat.zero_le _, Nat.zero_le _⟩ (Nat.le_of_ble_eq_true rfl) dX2_alarmsWith_94 rfl (fun x1 I1 hq => ?_)
          obtain ⟨rfl, rfl⟩ := hq
          simp only [reduceIte, Bool.false_eq_true]
          first | refine j_icmp_leN' (tgt := 127) (pc' := 100) (by with_reducible rfl) (by with_reducible rfl) (by omega) (by omega) dX2_alarmsWith_97 rfl (by decide) (fun c97 => ?_) (fun c97 => ?_) | refine j_icmp_le (tgt := 127) (pc' := 100) dX2_alarmsWith_97 rfl (by decide) (fun c97 => ?_) (fun c97 => ?_)
          ·
            skip
            first | refine j_iincN (pc' := 130) (lv' := [_, _, _, _, _, _, _, _, _]) dX2_alarmsWith_127 rfl rfl (by decide) rfl ?_ | refine j_iinc (pc' := 130) (lv' := [_, _, _, _, _, _, _, _, _]) dX2_alarmsWith_127 rfl rfl rfl (by decide) rfl ?_
            refine j_goto (tgt := 32) dX2_alarmsWith_130 (by decide) ?_
            have e : plF v i dead b (j + 1) = plS v i dead (v (176 + 56 * i + (16 + (b + j) % 40))) (plF v i dead b j) := rfl
            rw [hpl, plS] at e
            simp only [c77, reduceIte, Bool.false_eq_true] at e
            rw [if_pos c97] at e
            exact ih (j + 1) (by omega) (by omega) _ _ false e _ _
          ·
            skip
            refine j_iconst (pc' := 101) (v := nI 0) dX2_alarmsWith_100 rfl rfl ?_
            refine j_istore (pc' := 103) (lv' := [_, _, _, _, _, _, _, _, _]) dX2_alarmsWith_101 rfl (by decide) rfl ?_
            refine j_iload_n (pc' := 104) dX2_alarmsWith_103 rfl rfl ?_
            first | refine j_if_neB' (tgt := 111) (pc' := 107) (by with_reducible rfl) dX2_alarmsWith_104 rfl (by decide) (fun c104 => ?_) (fun c104 => ?_) | refine j_if_neN' (tgt := 111) (pc' := 107) (by with_reducible rfl) (by omega) dX2_alarmsWith_104 rfl (by decide) (fun c104 => ?_) (fun c104 => ?_) | refine j_if_ne (tgt := 111) (pc' := 107) dX2_alarmsWith_104 rfl (by decide) (fun c104 => ?_) (fun c104 => ?_)
            ·
              exact absurd c104 (by decide)
            ·
              skip
              refine j_iconst (pc' := 108) (v := nI 1) dX2_alarmsWith_107 rfl rfl ?_
              refine j_goto (tgt := 112) dX2_alarmsWith_108 (by decide) ?_
              refine j_istore_n (pc' := 113) (lv' := [_, _, _, _, _, _, _, _, _]) dX2_alarmsWith_112 rfl (by decide) rfl ?_
              refine j_iload (pc' := 115) dX2_alarmsWith_113 rfl rfl ?_
              refine j_iload_n (pc' := 116) dX2_alarmsWith_115 rfl rfl ?_
              first | refine j_if_eqB' (tgt := 123) (pc' := 119) (by with_reducible rfl) dX2_alarmsWith_116 rfl (by decide) (fun c116 => ?_) (fun c116 => ?_) | refine j_if_eqN' (tgt := 123) (pc' := 119) (by with_reducible rfl) (by omega) dX2_alarmsWith_116 rfl (by decide) (fun c116 => ?_) (fun c116 => ?_) | refine j_if_eq (tgt := 123) (pc' := 119) dX2_alarmsWith_116 rfl (by decide) (fun c116 => ?_) (fun c116 => ?_)
              ·
                exact absurd c116 (by decide)
              ·
                skip
                refine j_iconst (pc' := 120) (v := nI 1) dX2_alarmsWith_119 rfl rfl ?_
                refine j_goto (tgt := 124) dX2_alarmsWith_120 (by decide) ?_
                refine j_iadd (pc' := 125) dX2_alarmsWith_124 rfl ?_
                refine j_istore (pc' := 127) (lv' := [_, _, _, _, _, _, _, _, _]) dX2_alarmsWith_125 rfl (by decide) rfl ?_
                first | refine j_iincN (pc' := 130) (lv' := [_, _, _, _, _, _, _, _, _]) dX2_alarmsWith_127 rfl rfl (by decide) rfl ?_ | refine j_iinc (pc' := 130) (lv' := [_, _, _, _, _, _, _, _, _]) dX2_alarmsWith_127 rfl rfl rfl (by decide) rfl ?_
                refine j_goto (tgt := 32) dX2_alarmsWith_130 (by decide) ?_
                have e : plF v i dead b (j + 1) = plS v i dead (v (176 + 56 * i + (16 + (b + j) % 40))) (plF v i dead b j) := rfl
                rw [hpl, plS] at e
                simp only [c77, reduceIte, Bool.false_eq_true] at e
                rw [if_neg c97] at e
                exact ih (j + 1) (by omega) (by omega) _ _ true e _ _
        ·
          skip
          refine j_iload (pc' := 82) dX2_alarmsWith_80 rfl rfl ?_
          refine j_iconst (pc' := 83) (v := nI 1) dX2_alarmsWith_82 rfl rfl ?_
          refine j_iadd (pc' := 84) dX2_alarmsWith_83 rfl ?_
          refine j_goto (tgt := 88) dX2_alarmsWith_84 (by decide) ?_
          refine j_istore (pc' := 90) (lv' := [_, _, _, _, _, _, _, _, _]) dX2_alarmsWith_88 rfl (by decide) rfl ?_
          refine j_iload (pc' := 92) dX2_alarmsWith_90 rfl rfl ?_
          refine j_aload_n (pc' := 93) dX2_alarmsWith_92 rfl rfl ?_
          refine j_iload_n (pc' := 94) dX2_alarmsWith_93 rfl rfl ?_
          refine j_cVi (pc' := 97) m_X2_65 (c_X2_delayOf (b := false) hp h) (by assumption) (by decide) rfl rfl rfl ⟨Nat.le_of_ble_eq_true rfl, Nat.le_of_ble_eq_true rfl⟩ ⟨Nat.zero_le _, Nat.zero_le _⟩ (Nat.le_of_ble_eq_true rfl) dX2_alarmsWith_94 rfl (fun x1 I1 hq => ?_)
          obtain ⟨rfl, rfl⟩ := hq
          simp only [reduceIte, Bool.false_eq_true]
          first | refine j_icmp_leN' (tgt := 127) (pc' := 100) (by with_reducible rfl) (by with_reducible rfl) (by omega) (by omega) dX2_alarmsWith_97 rfl (by decide) (fun c97 => ?_) (fun c97 => ?_) | refine j_icmp_le (tgt := 127) (pc' := 100) dX2_alarmsWith_97 rfl (by decide) (fun c97 => ?_) (fun c97 => ?_)
          ·
            skip
            first | refine j_iincN (pc' := 130) (lv' := [_, _, _, _, _, _, _, _, _]) dX2_alarmsWith_127 rfl rfl (by decide) rfl ?_ | refine j_iinc (pc' := 130) (lv' := [_, _, _, _, _, _, _, _, _]) dX2_alarmsWith_127 rfl rfl rfl (by decide) rfl ?_
            refine j_goto (tgt := 32) dX2_alarmsWith_130 (by decide) ?_
            have e : plF v i dead b (j + 1) = plS v i dead (v (176 + 56 * i + (16 + (b + j) % 40))) (plF v i dead b j) := rfl
            rw [hpl, plS] at e
            simp only [c77, reduceIte, Bool.false_eq_true] at e
            rw [if_pos c97] at e
            exact ih (j + 1) (by omega) (by omega) _ _ false e _ _
          ·
            skip
            refine j_iconst (pc' := 101) (v := nI 0) dX2_alarmsWith_100 rfl rfl ?_
            refine j_istore (pc' := 103) (lv' := [_, _, _, _, _, _, _, _, _]) dX2_alarmsWith_101 rfl (by decide) rfl ?_
            refine j_iload_n (pc' := 104) dX2_alarmsWith_103 rfl rfl ?_
            first | refine j_if_neB' (tgt := 111) (pc' := 107) (by with_reducible rfl) dX2_alarmsWith_104 rfl (by decide) (fun c104 => ?_) (fun c104 => ?_) | refine j_if_neN' (tgt := 111) (pc' := 107) (by with_reducible rfl) (by omega) dX2_alarmsWith_104 rfl (by decide) (fun c104 => ?_) (fun c104 => ?_) | refine j_if_ne (tgt := 111) (pc' := 107) dX2_alarmsWith_104 rfl (by decide) (fun c104 => ?_) (fun c104 => ?_)
            ·
              exact absurd c104 (by decide)
            ·
              skip
              refine j_iconst (pc' := 108) (v := nI 1) dX2_alarmsWith_107 rfl rfl ?_
              refine j_goto (tgt := 112) dX2_alarmsWith_108 (by decide) ?_
              refine j_istore_n (pc' := 113) (lv' := [_, _, _, _, _, _, _, _, _]) dX2_alarmsWith_112 rfl (by decide) rfl ?_
              refine j_iload (pc' := 115) dX2_alarmsWith_113 rfl rfl ?_
              refine j_iload_n (pc' := 116) dX2_alarmsWith_115 rfl rfl ?_
              first | refine j_if_eqB' (tgt := 123) (pc' := 119) (by with_reducible rfl) dX2_alarmsWith_116 rfl (by decide) (fun c116 => ?_) (fun c116 => ?_) | refine j_if_eqN' (tgt := 123) (pc' := 119) (by with_reducible rfl) (by omega) dX2_alarmsWith_116 rfl (by decide) (fun c116 => ?_) (fun c116 => ?_) | refine j_if_eq (tgt := 123) (pc' := 119) dX2_alarmsWith_116 rfl (by decide) (fun c116 => ?_) (fun c116 => ?_)
              ·
                exact absurd c116 (by decide)
              ·
                skip
                refine j_iconst (pc' := 120) (v := nI 1) dX2_alarmsWith_119 rfl rfl ?_
                refine j_goto (tgt := 124) dX2_alarmsWith_120 (by decide) ?_
                refine j_iadd (pc' := 125) dX2_alarmsWith_124 rfl ?_
                refine j_istore (pc' := 127) (lv' := [_, _, _, _, _, _, _, _, _]) dX2_alarmsWith_125 rfl (by decide) rfl ?_
                first | refine j_iincN (pc' := 130) (lv' := [_, _, _, _, _, _, _, _, _]) dX2_alarmsWith_127 rfl rfl (by decide) rfl ?_ | refine j_iinc (pc' := 130) (lv' := [_, _, _, _, _, _, _, _, _]) dX2_alarmsWith_127 rfl rfl rfl (by decide) rfl ?_
                refine j_goto (tgt := 32) dX2_alarmsWith_130 (by decide) ?_
                have e : plF v i dead b (j + 1) = plS v i dead (v (176 + 56 * i + (16 + (b + j) % 40))) (plF v i dead b j) := rfl
                rw [hpl, plS] at e
                simp only [c77, reduceIte, Bool.false_eq_true] at e
                rw [if_neg c97] at e
                exact ih (j + 1) (by omega) (by omega) _ _ true e _ _
      ·
        subst c54
        refine j_aload_n (pc' := 58) dX2_alarmsWith_57 rfl rfl ?_
        refine j_iload (pc' := 60) dX2_alarmsWith_58 rfl rfl ?_
        refine j_iload_n (pc' := 61) dX2_alarmsWith_60 rfl rfl ?_
        refine j_cVi (pc' := 64) m_X2_53 (c_X2_isClear hp h) (by assumption) (by decide) rfl rfl rfl ⟨Nat.le_of_ble_eq_true rfl, Nat.le_of_ble_eq_true rfl⟩ ⟨Nat.zero_le _, Nat.zero_le _⟩ (Nat.le_of_ble_eq_true rfl) dX2_alarmsWith_61 rfl (fun x1 I1 hq => ?_)
        obtain ⟨rfl, rfl⟩ := hq
        refine j_goto (tgt := 73) dX2_alarmsWith_64 (by decide) ?_
        refine j_istore (pc' := 75) (lv' := [_, _, _, _, _, _, _, _, _]) dX2_alarmsWith_73 rfl (by decide) rfl ?_
        refine j_iload (pc' := 77) dX2_alarmsWith_75 rfl rfl ?_
        first | refine j_if_eqB' (tgt := 87) (pc' := 80) (by with_reducible rfl) dX2_alarmsWith_77 rfl (by decide) (fun c77 => ?_) (fun c77 => ?_) | refine j_if_eqN' (tgt := 87) (pc' := 80) (by with_reducible rfl) (by omega) dX2_alarmsWith_77 rfl (by decide) (fun c77 => ?_) (fun c77 => ?_) | refine j_if_eq (tgt := 87) (pc' := 80) dX2_alarmsWith_77 rfl (by decide) (fun c77 => ?_) (fun c77 => ?_)
        ·
          skip
          refine j_iconst (pc' := 88) (v := nI 0) dX2_alarmsWith_87 rfl rfl ?_
          refine j_istore (pc' := 90) (lv' := [_, _, _, _, _, _, _, _, _]) dX2_alarmsWith_88 rfl (by decide) rfl ?_
          refine j_iload (pc' := 92) dX2_alarmsWith_90 rfl rfl ?_
          refine j_aload_n (pc' := 93) dX2_alarmsWith_92 rfl rfl ?_
          refine j_iload_n (pc' := 94) dX2_alarmsWith_93 rfl rfl ?_
          refine j_cVi (pc' := 97) m_X2_65 (c_X2_delayOf (b := true) hp h) (by assumption) (by decide) rfl rfl rfl ⟨Nat.le_of_ble_eq_true rfl, Nat.le_of_ble_eq_true rfl⟩ ⟨Nat.zero_le _, Nat.zero_le _⟩ (Nat.le_of_ble_eq_true rfl) dX2_alarmsWith_94 rfl (fun x1 I1 hq => ?_)
          obtain ⟨rfl, rfl⟩ := hq
          simp only [reduceIte, Bool.false_eq_true]
          first | refine j_icmp_leN' (tgt := 127) (pc' := 100) (by with_reducible rfl) (by with_reducible rfl) (by omega) (by omega) dX2_alarmsWith_97 rfl (by decide) (fun c97 => ?_) (fun c97 => ?_) | refine j_icmp_le (tgt := 127) (pc' := 100) dX2_alarmsWith_97 rfl (by decide) (fun c97 => ?_) (fun c97 => ?_)
          ·
            skip
            first | refine j_iincN (pc' := 130) (lv' := [_, _, _, _, _, _, _, _, _]) dX2_alarmsWith_127 rfl rfl (by decide) rfl ?_ | refine j_iinc (pc' := 130) (lv' := [_, _, _, _, _, _, _, _, _]) dX2_alarmsWith_127 rfl rfl rfl (by decide) rfl ?_
            refine j_goto (tgt := 32) dX2_alarmsWith_130 (by decide) ?_
            have e : plF v i dead b (j + 1) = plS v i dead (v (176 + 56 * i + (16 + (b + j) % 40))) (plF v i dead b j) := rfl
            rw [hpl, plS] at e
            simp only [c77, reduceIte, Bool.false_eq_true] at e
            rw [if_pos c97] at e
            exact ih (j + 1) (by omega) (by omega) _ _ true e _ _
          ·
            skip
            refine j_iconst (pc' := 101) (v := nI 0) dX2_alarmsWith_100 rfl rfl ?_
            refine j_istore (pc' := 103) (lv' := [_, _, _, _, _, _, _, _, _]) dX2_alarmsWith_101 rfl (by decide) rfl ?_
            refine j_iload_n (pc' := 104) dX2_alarmsWith_103 rfl rfl ?_
            first | refine j_if_neB' (tgt := 111) (pc' := 107) (by with_reducible rfl) dX2_alarmsWith_104 rfl (by decide) (fun c104 => ?_) (fun c104 => ?_) | refine j_if_neN' (tgt := 111) (pc' := 107) (by with_reducible rfl) (by omega) dX2_alarmsWith_104 rfl (by decide) (fun c104 => ?_) (fun c104 => ?_) | refine j_if_ne (tgt := 111) (pc' := 107) dX2_alarmsWith_104 rfl (by decide) (fun c104 => ?_) (fun c104 => ?_)
            ·
              skip
              refine j_iconst (pc' := 112) (v := nI 0) dX2_alarmsWith_111 rfl rfl ?_
              refine j_istore_n (pc' := 113) (lv' := [_, _, _, _, _, _, _, _, _]) dX2_alarmsWith_112 rfl (by decide) rfl ?_
              refine j_iload (pc' := 115) dX2_alarmsWith_113 rfl rfl ?_
              refine j_iload_n (pc' := 116) dX2_alarmsWith_115 rfl rfl ?_
              first | refine j_if_eqB' (tgt := 123) (pc' := 119) (by with_reducible rfl) dX2_alarmsWith_116 rfl (by decide) (fun c116 => ?_) (fun c116 => ?_) | refine j_if_eqN' (tgt := 123) (pc' := 119) (by with_reducible rfl) (by omega) dX2_alarmsWith_116 rfl (by decide) (fun c116 => ?_) (fun c116 => ?_) | refine j_if_eq (tgt := 123) (pc' := 119) dX2_alarmsWith_116 rfl (by decide) (fun c116 => ?_) (fun c116 => ?_)
              ·
                skip
                refine j_iconst (pc' := 124) (v := nI 0) dX2_alarmsWith_123 rfl rfl ?_
                refine j_iadd (pc' := 125) dX2_alarmsWith_124 rfl ?_
                refine j_istore (pc' := 127) (lv' := [_, _, _, _, _, _, _, _, _]) dX2_alarmsWith_125 rfl (by decide) rfl ?_
                first | refine j_iincN (pc' := 130) (lv' := [_, _, _, _, _, _, _, _, _]) dX2_alarmsWith_127 rfl rfl (by decide) rfl ?_ | refine j_iinc (pc' := 130) (lv' := [_, _, _, _, _, _, _, _, _]) dX2_alarmsWith_127 rfl rfl rfl (by decide) rfl ?_
                refine j_goto (tgt := 32) dX2_alarmsWith_130 (by decide) ?_
                have e : plF v i dead b (j + 1) = plS v i dead (v (176 + 56 * i + (16 + (b + j) % 40))) (plF v i dead b j) := rfl
                rw [hpl, plS] at e
                simp only [c77, reduceIte, Bool.false_eq_true] at e
                rw [if_neg c97] at e
                exact ih (j + 1) (by omega) (by omega) _ _ false e _ _
              ·
                exact absurd c116 (by decide)
            ·
              exact absurd c104 (by decide)
        ·
          skip
          refine j_iload (pc' := 82) dX2_alarmsWith_80 rfl rfl ?_
          refine j_iconst (pc' := 83) (v := nI 1) dX2_alarmsWith_82 rfl rfl ?_
          refine j_iadd (pc' := 84) dX2_alarmsWith_83 rfl ?_
          refine j_goto (tgt := 88) dX2_alarmsWith_84 (by decide) ?_
          refine j_istore (pc' := 90) (lv' := [_, _, _, _, _, _, _, _, _]) dX2_alarmsWith_88 rfl (by decide) rfl ?_
          refine j_iload (pc' := 92) dX2_alarmsWith_90 rfl rfl ?_
          refine j_aload_n (pc' := 93) dX2_alarmsWith_92 rfl rfl ?_
          refine j_iload_n (pc' := 94) dX2_alarmsWith_93 rfl rfl ?_
          refine j_cVi (pc' := 97) m_X2_65 (c_X2_delayOf (b := true) hp h) (by assumption) (by decide) rfl rfl rfl ⟨Nat.le_of_ble_eq_true rfl, Nat.le_of_ble_eq_true rfl⟩ ⟨Nat.zero_le _, Nat.zero_le _⟩ (Nat.le_of_ble_eq_true rfl) dX2_alarmsWith_94 rfl (fun x1 I1 hq => ?_)
          obtain ⟨rfl, rfl⟩ := hq
          simp only [reduceIte, Bool.false_eq_true]
          first | refine j_icmp_leN' (tgt := 127) (pc' := 100) (by with_reducible rfl) (by with_reducible rfl) (by omega) (by omega) dX2_alarmsWith_97 rfl (by decide) (fun c97 => ?_) (fun c97 => ?_) | refine j_icmp_le (tgt := 127) (pc' := 100) dX2_alarmsWith_97 rfl (by decide) (fun c97 => ?_) (fun c97 => ?_)
          ·
            skip
            first | refine j_iincN (pc' := 130) (lv' := [_, _, _, _, _, _, _, _, _]) dX2_alarmsWith_127 rfl rfl (by decide) rfl ?_ | refine j_iinc (pc' := 130) (lv' := [_, _, _, _, _, _, _, _, _]) dX2_alarmsWith_127 rfl rfl rfl (by decide) rfl ?_
            refine j_goto (tgt := 32) dX2_alarmsWith_130 (by decide) ?_
            have e : plF v i dead b (j + 1) = plS v i dead (v (176 + 56 * i + (16 + (b + j) % 40))) (plF v i dead b j) := rfl
            rw [hpl, plS] at e
            simp only [c77, reduceIte, Bool.false_eq_true] at e
            rw [if_pos c97] at e
            exact ih (j + 1) (by omega) (by omega) _ _ true e _ _
          ·
            skip
            refine j_iconst (pc' := 101) (v := nI 0) dX2_alarmsWith_100 rfl rfl ?_
            refine j_istore (pc' := 103) (lv' := [_, _, _, _, _, _, _, _, _]) dX2_alarmsWith_101 rfl (by decide) rfl ?_
            refine j_iload_n (pc' := 104) dX2_alarmsWith_103 rfl rfl ?_
            first | refine j_if_neB' (tgt := 111) (pc' := 107) (by with_reducible rfl) dX2_alarmsWith_104 rfl (by decide) (fun c104 => ?_) (fun c104 => ?_) | refine j_if_neN' (tgt := 111) (pc' := 107) (by with_reducible rfl) (by omega) dX2_alarmsWith_104 rfl (by decide) (fun c104 => ?_) (fun c104 => ?_) | refine j_if_ne (tgt := 111) (pc' := 107) dX2_alarmsWith_104 rfl (by decide) (fun c104 => ?_) (fun c104 => ?_)
            ·
              skip
              refine j_iconst (pc' := 112) (v := nI 0) dX2_alarmsWith_111 rfl rfl ?_
              refine j_istore_n (pc' := 113) (lv' := [_, _, _, _, _, _, _, _, _]) dX2_alarmsWith_112 rfl (by decide) rfl ?_
              refine j_iload (pc' := 115) dX2_alarmsWith_113 rfl rfl ?_
              refine j_iload_n (pc' := 116) dX2_alarmsWith_115 rfl rfl ?_
              first | refine j_if_eqB' (tgt := 123) (pc' := 119) (by with_reducible rfl) dX2_alarmsWith_116 rfl (by decide) (fun c116 => ?_) (fun c116 => ?_) | refine j_if_eqN' (tgt := 123) (pc' := 119) (by with_reducible rfl) (by omega) dX2_alarmsWith_116 rfl (by decide) (fun c116 => ?_) (fun c116 => ?_) | refine j_if_eq (tgt := 123) (pc' := 119) dX2_alarmsWith_116 rfl (by decide) (fun c116 => ?_) (fun c116 => ?_)
              ·
                skip
                refine j_iconst (pc' := 124) (v := nI 0) dX2_alarmsWith_123 rfl rfl ?_
                refine j_iadd (pc' := 125) dX2_alarmsWith_124 rfl ?_
                refine j_istore (pc' := 127) (lv' := [_, _, _, _, _, _, _, _, _]) dX2_alarmsWith_125 rfl (by decide) rfl ?_
                first | refine j_iincN (pc' := 130) (lv' := [_, _, _, _, _, _, _, _, _]) dX2_alarmsWith_127 rfl rfl (by decide) rfl ?_ | refine j_iinc (pc' := 130) (lv' := [_, _, _, _, _, _, _, _, _]) dX2_alarmsWith_127 rfl rfl rfl (by decide) rfl ?_
                refine j_goto (tgt := 32) dX2_alarmsWith_130 (by decide) ?_
                have e : plF v i dead b (j + 1) = plS v i dead (v (176 + 56 * i + (16 + (b + j) % 40))) (plF v i dead b j) := rfl
                rw [hpl, plS] at e
                simp only [c77, reduceIte, Bool.false_eq_true] at e
                rw [if_neg c97] at e
                exact ih (j + 1) (by omega) (by omega) _ _ false e _ _
              ·
                exact absurd c116 (by decide)
            ·
              exact absurd c104 (by decide)
set_option maxRecDepth 100000 in
set_option maxHeartbeats 4000000 in
theorem c_X2_alarmsWith {E : jx_E} {l : Launch} {n : Nat} {kd : jx_K} {R : jx_R} {I : jx_I} {p : Nat} {v : Nat → Int32} {i : Nat} (hp : sPt kd R p) (h : aPt I p v i) {K : Nat} {dead : Int32} (hK : v (176 + 56 * i + 15) = nI K) (hK1 : K ≤ 50000) : jx_Ci E l yX2_alarmsWith cX2_alarmsWith 9 (some .int) 2 n kd R (I) [.ref p, .int dead] (fun r I' => r = (plays v i dead K) ∧ I' = I) := by
  obtain ⟨K0, K1, K2, R0, R1⟩ := id hp
  obtain ⟨hst, h15, h7, h8, h9, h10, h11, h12, h13, h14, hvl⟩ := id h
  have s0 := hst 0 (by decide)
  have s1 := hst 1 (by decide)
  have s2 := hst 2 (by decide)
  have s3 := hst 3 (by decide)
  have s4 := hst 4 (by decide)
  have s5 := hst 5 (by decide)
  have s6 := hst 6 (by decide)
  refine jx_C0.ofJ RX2 [some (.ref p), some (.int dead), none, none, none, none, none, none, none] (by decide) rfl rfl (Nat.le_of_ble_eq_true rfl) rfl ?_
  refine j_aload_n (pc' := 1) dX2_alarmsWith_0 rfl rfl ?_
  refine j_getIv (pc' := 4) f_X2_18 (by assumption) (by first | (simp (disch := omega) only [jx_upS, jx_upK, jx_upA, s0, s1, s2, s3, s4, s5, s6, h15, h7, h8, h9, h10, h11, h12, h13, h14, hK]; rfl) | rfl) dX2_alarmsWith_1 rfl ?_
  refine j_bipush (pc' := 6) (v := nI 40) dX2_alarmsWith_4 rfl rfl ?_
  first | refine j_icmp_leN' (tgt := 19) (pc' := 9) (by with_reducible rfl) (by with_reducible rfl) (by omega) (by omega) dX2_alarmsWith_6 rfl (by decide) (fun c6 => ?_) (fun c6 => ?_) | refine j_icmp_le (tgt := 19) (pc' := 9) dX2_alarmsWith_6 rfl (by decide) (fun c6 => ?_) (fun c6 => ?_)
  ·
    refine j_iconst (pc' := 20) (v := nI 0) dX2_alarmsWith_19 rfl rfl ?_
    refine j_istore_n (pc' := 21) (lv' := [_, _, _, _, _, _, _, _, _]) dX2_alarmsWith_20 rfl (by decide) rfl ?_
    refine j_iconst (pc' := 22) (v := nI 0) dX2_alarmsWith_21 rfl rfl ?_
    refine j_istore_n (pc' := 23) (lv' := [_, _, _, _, _, _, _, _, _]) dX2_alarmsWith_22 rfl (by decide) rfl ?_
    refine j_iconst (pc' := 24) (v := nI 0) dX2_alarmsWith_23 rfl rfl ?_
    refine j_istore (pc' := 26) (lv' := [_, _, _, _, _, _, _, _, _]) dX2_alarmsWith_24 rfl (by decide) rfl ?_
    refine j_iconst (pc' := 27) (v := nI 0) dX2_alarmsWith_26 rfl rfl ?_
    refine j_istore (pc' := 29) (lv' := [_, _, _, _, _, _, _, _, _]) dX2_alarmsWith_27 rfl (by decide) rfl ?_
    refine j_iload_n (pc' := 30) dX2_alarmsWith_29 rfl rfl ?_
    refine j_istore (pc' := 32) (lv' := [_, _, _, _, _, _, _, _, _]) dX2_alarmsWith_30 rfl (by decide) rfl ?_
    have hh := lp_X2_alarmsWith (E := E) (l := l) (n := n) (b := 0) (nn := K) (dead := dead) (x2 := nI 0) hp h hK hK1 (by omega) (Or.inr rfl) (by omega) (K + 1) 0 (by omega) (by omega) (nI 0) (nI 0) false rfl none none
    have e : (if K < 40 then K else 40) = K := by split <;> omega
    rw [plays, e, Nat.sub_self]
    exact hh
  ·
    skip
    refine j_aload_n (pc' := 10) dX2_alarmsWith_9 rfl rfl ?_
    refine j_getIv (pc' := 13) f_X2_18 (by assumption) (by first | (simp (disch := omega) only [jx_upS, jx_upK, jx_upA, s0, s1, s2, s3, s4, s5, s6, h15, h7, h8, h9, h10, h11, h12, h13, h14, hK]; rfl) | rfl) dX2_alarmsWith_10 rfl ?_
    refine j_bipush (pc' := 15) (v := nI 40) dX2_alarmsWith_13 rfl rfl ?_
    first | refine j_isubN' (pc' := 16) (by with_reducible rfl) (by with_reducible rfl) (by omega) dX2_alarmsWith_15 rfl ?_ | refine j_isub (pc' := 16) dX2_alarmsWith_15 rfl ?_
    refine j_goto (tgt := 20) dX2_alarmsWith_16 (by decide) ?_
    refine j_istore_n (pc' := 21) (lv' := [_, _, _, _, _, _, _, _, _]) dX2_alarmsWith_20 rfl (by decide) rfl ?_
    refine j_iconst (pc' := 22) (v := nI 0) dX2_alarmsWith_21 rfl rfl ?_
    refine j_istore_n (pc' := 23) (lv' := [_, _, _, _, _, _, _, _, _]) dX2_alarmsWith_22 rfl (by decide) rfl ?_
    refine j_iconst (pc' := 24) (v := nI 0) dX2_alarmsWith_23 rfl rfl ?_
    refine j_istore (pc' := 26) (lv' := [_, _, _, _, _, _, _, _, _]) dX2_alarmsWith_24 rfl (by decide) rfl ?_
    refine j_iconst (pc' := 27) (v := nI 0) dX2_alarmsWith_26 rfl rfl ?_
    refine j_istore (pc' := 29) (lv' := [_, _, _, _, _, _, _, _, _]) dX2_alarmsWith_27 rfl (by decide) rfl ?_
    refine j_iload_n (pc' := 30) dX2_alarmsWith_29 rfl rfl ?_
    refine j_istore (pc' := 32) (lv' := [_, _, _, _, _, _, _, _, _]) dX2_alarmsWith_30 rfl (by decide) rfl ?_
    have hh := lp_X2_alarmsWith (E := E) (l := l) (n := n) (b := K - 40) (nn := 40) (dead := dead) (x2 := nI (K - 40)) hp h hK hK1 (by omega) (Or.inl rfl) (Nat.le_refl _) 41 0 (by omega) (by omega) (nI 0) (nI 0) false rfl none none
    have e : (if K < 40 then K else 40) = 40 := if_neg (by omega)
    rw [plays, e]
    exact hh

