set_option maxRecDepth 100000 in
set_option maxHeartbeats 4000000 in
theorem c_X6_ofv {E : jx_E} {l : Launch} {n : Nat} {kd : jx_K} {R : jx_R} {I0 : jx_I} {m : Nat} {F v a p o t c : Nat → Int32} {i w : Nat} {y : Int32} (hs : sMd kd R m) (hi : i < 16) (hw : w < 56) (hv : v (176 + 56 * i + w) = y) : jx_Ci E l yX6_of cX6_of 3 (some .int) 0 n kd R (mI I0 m F v a p o t c) [.ref m, .int (nI i), .int (nI w)] (fun r I' => r = y ∧ I' = mI I0 m F v a p o t c) := by
  obtain ⟨K0, K1, K2, K3, K4, K5, K6, R0, R1, R2, R4, R6, R10⟩ := id hs
  refine jx_C0.ofJ RX6 [some (.ref m), some (.int (nI i)), some (.int (nI w))] (by decide) rfl rfl (Nat.le_of_ble_eq_true rfl) rfl ?_
  refine j_aload_n (pc' := 1) dX6_of_0 rfl rfl ?_
  refine j_getR (pc' := 4) f_X6_7 (by assumption) (by assumption) dX6_of_1 rfl ?_
  refine j_sipush (pc' := 7) (v := nI 176) dX6_of_4 rfl rfl ?_
  refine j_bipush (pc' := 9) (v := nI 56) dX6_of_7 rfl rfl ?_
  refine j_iload_n (pc' := 10) dX6_of_9 rfl rfl ?_
  first | refine j_imulN' (pc' := 11) (by with_reducible rfl) (by with_reducible rfl) dX6_of_10 rfl ?_ | refine j_imul (pc' := 11) dX6_of_10 rfl ?_
  first | refine j_iaddN' (pc' := 12) (by with_reducible rfl) (by with_reducible rfl) dX6_of_11 rfl ?_ | refine j_iadd (pc' := 12) dX6_of_11 rfl ?_
  refine j_iload_n (pc' := 13) dX6_of_12 rfl rfl ?_
  first | refine j_iaddN' (pc' := 14) (by with_reducible rfl) (by with_reducible rfl) dX6_of_13 rfl ?_ | refine j_iadd (pc' := 14) dX6_of_13 rfl ?_
  refine j_ialdv (pc' := 15) (by assumption) rfl (by omega) (by omega) (by first | (simp (disch := omega) only [jx_upS, jx_upK, jx_upA, mI_0, mI_1, mI_2, mI_3, mI_4, mI_5, mI_6, pk_us, pk_un, hv]; rfl) | rfl) dX6_of_14 rfl ?_
  refine j_reti dX6_of_15 rfl (by first | rfl | exact bi_n _) ?_
  exact ⟨rfl, rfl⟩

def lkG (v : Nat → Int32) (i : Nat) : Bool := if v (176 + 56 * i + 9) = 0 then sOv (v (176 + 56 * i + 0)) (v (176 + 56 * i + 1)) (v (176 + 56 * i + 7)) else sCl (v (176 + 56 * i + 0)) (v (176 + 56 * i + 1)) (v (176 + 56 * i + 2)) (v (176 + 56 * i + 7))
def lkC (v : Nat → Int32) (i : Nat) : Int32 := if lkG v i = true then v (176 + 56 * i + 11) + nI 1 else nI 0
/-- what a tick does with a point's alarm -/
def sLook (v : Nat → Int32) (T i : Nat) : Nat → Int32 :=
  if v (176 + 56 * i + 9) = 0 then
    if lkC v i ≤ v (176 + 56 * i + 3) then upd v (176 + 56 * i + 11) (lkC v i)
    else sHap (upd (upd (upd (upd (upd (upd (upd (upd v (176 + 56 * i + 11) (lkC v i)) (176 + 56 * i + 11) (nI 0)) (176 + 56 * i + 9) (nI 1)) (176 + 56 * i + 10) (nI 0)) (176 + 56 * i + 12) (nI T)) (176 + 56 * i + 14) (v (176 + 56 * i + 14) + nI 1)) 8 (v 8 + nI 1)) (16 + T % 64) (v (16 + T % 64) + nI 1)) (nI 1) (nI i)
  else if lkC v i ≤ v (176 + 56 * i + 4) then upd v (176 + 56 * i + 11) (lkC v i)
    else sHap (upd (upd (upd v (176 + 56 * i + 11) (lkC v i)) (176 + 56 * i + 11) (nI 0)) (176 + 56 * i + 9) (nI 0)) (nI 2) (nI i)
theorem sLook_o {v : Nat → Int32} {T i j : Nat} (h1 : j ≠ 8 ∧ j ≠ 9) (h2 : j < 16 ∨ 170 ≤ j) (h3 : j ≠ 176 + 56 * i + 9 ∧ j ≠ 176 + 56 * i + 10 ∧ j ≠ 176 + 56 * i + 11 ∧ j ≠ 176 + 56 * i + 12 ∧ j ≠ 176 + 56 * i + 14) : sLook v T i j = v j := by
  have hT : T % 64 < 64 := Nat.mod_lt _ (by decide)
  unfold sLook
  split
  · split
    · rw [pk_un (by omega)]
    · rw [sHap_o (by omega), pk_un (by omega), pk_un (by omega), pk_un (by omega), pk_un (by omega), pk_un (by omega), pk_un (by omega), pk_un (by omega), pk_un (by omega)]
  · split
    · rw [pk_un (by omega)]
    · rw [sHap_o (by omega), pk_un (by omega), pk_un (by omega), pk_un (by omega)]
theorem sLook_9 {v : Nat → Int32} {T i N : Nat} (hN : v 9 = nI N) (hb : N < 2147483000) : ∃ N', N ≤ N' ∧ N' ≤ N + 1 ∧ sLook v T i 9 = nI N' := by
  have hT : T % 64 < 64 := Nat.mod_lt _ (by decide)
  unfold sLook
  split
  · split
    · exact ⟨N, Nat.le_refl _, by omega, by rw [pk_un (by omega), hN]⟩
    · exact ⟨N + 1, by omega, by omega, sHap_9 (by rw [pk_un (by omega), pk_un (by omega), pk_un (by omega), pk_un (by omega), pk_un (by omega), pk_un (by omega), pk_un (by omega), pk_un (by omega), hN]) hb⟩
  · split
    · exact ⟨N, Nat.le_refl _, by omega, by rw [pk_un (by omega), hN]⟩
    · exact ⟨N + 1, by omega, by omega, sHap_9 (by rw [pk_un (by omega), pk_un (by omega), pk_un (by omega), hN]) hb⟩

set_option maxRecDepth 100000 in
set_option maxHeartbeats 4000000 in
theorem c_X6_looks {E : jx_E} {l : Launch} {n : Nat} {kd : jx_K} {R : jx_R} {I0 : jx_I} {m : Nat} {F v a p o t c : Nat → Int32} {i N T : Nat} (hs : sMd kd R m) (hi : i < 16) (hT : v 1 = nI T) (hT1 : T ≤ 10000) (hN : v 9 = nI N) (hNb : N < 2147483000) : jx_Cv E l yX6_looks cX6_looks 4 none 2 n kd R (mI I0 m F v a p o t c) [.ref m, .int (nI i)] (fun I' => I' = mI I0 m F (sLook v T i) a p o t c) := by
  obtain ⟨K0, K1, K2, K3, K4, K5, K6, R0, R1, R2, R4, R6, R10⟩ := id hs
  refine jx_C0.ofJ RX6 [some (.ref m), some (.int (nI i)), none, none] (by decide) rfl rfl (Nat.le_of_ble_eq_true rfl) rfl ?_
  refine j_aload_n (pc' := 1) dX6_looks_0 rfl rfl ?_
  refine j_iload_n (pc' := 2) dX6_looks_1 rfl rfl ?_
  refine j_bipush (pc' := 4) (v := nI 9) dX6_looks_2 rfl rfl ?_
  refine j_cVi (pc' := 7) m_X6_59 (c_X6_ofv hs (by omega) (by omega) (by first | (simp (disch := omega) only [pk_us, pk_un, sHap_o]; rfl) | rfl)) (by assumption) (by decide) rfl rfl rfl ⟨Nat.le_of_ble_eq_true rfl, Nat.le_of_ble_eq_true rfl⟩ ⟨Nat.zero_le _, Nat.zero_le _⟩ (Nat.le_of_ble_eq_true rfl) dX6_looks_4 rfl (fun x1 I1 hq => ?_)
  obtain ⟨rfl, rfl⟩ := hq
  first | refine j_if_neB' (tgt := 14) (pc' := 10) (by with_reducible rfl) dX6_looks_7 rfl (by decide) (fun c7 => ?_) (fun c7 => ?_) | refine j_if_neN' (tgt := 14) (pc' := 10) (by with_reducible rfl) (by omega) dX6_looks_7 rfl (by decide) (fun c7 => ?_) (fun c7 => ?_) | refine j_if_ne (tgt := 14) (pc' := 10) dX6_looks_7 rfl (by decide) (fun c7 => ?_) (fun c7 => ?_)
  ·
    have g9 := c7
    refine j_iconst (pc' := 15) (v := nI 0) dX6_looks_14 rfl rfl ?_
    refine j_istore_n (pc' := 16) (lv' := [_, _, _, _]) dX6_looks_15 rfl (by decide) rfl ?_
    refine j_iload_n (pc' := 17) dX6_looks_16 rfl rfl ?_
    first | refine j_if_eqB' (tgt := 45) (pc' := 20) (by with_reducible rfl) dX6_looks_17 rfl (by decide) (fun c17 => ?_) (fun c17 => ?_) | refine j_if_eqN' (tgt := 45) (pc' := 20) (by with_reducible rfl) (by omega) dX6_looks_17 rfl (by decide) (fun c17 => ?_) (fun c17 => ?_) | refine j_if_eq (tgt := 45) (pc' := 20) dX6_looks_17 rfl (by decide) (fun c17 => ?_) (fun c17 => ?_)
    ·
      skip
      refine j_aload_n (pc' := 46) dX6_looks_45 rfl rfl ?_
      refine j_iload_n (pc' := 47) dX6_looks_46 rfl rfl ?_
      refine j_iconst (pc' := 48) (v := nI 0) dX6_looks_47 rfl rfl ?_
      refine j_cVi (pc' := 51) m_X6_59 (c_X6_ofv hs (by omega) (by omega) (by first | (simp (disch := omega) only [pk_us, pk_un, sHap_o]; rfl) | rfl)) (by assumption) (by decide) rfl rfl rfl ⟨Nat.le_of_ble_eq_true rfl, Nat.le_of_ble_eq_true rfl⟩ ⟨Nat.zero_le _, Nat.zero_le _⟩ (Nat.le_of_ble_eq_true rfl) dX6_looks_48 rfl (fun x1 I1 hq => ?_)
      obtain ⟨rfl, rfl⟩ := hq
      refine j_aload_n (pc' := 52) dX6_looks_51 rfl rfl ?_
      refine j_iload_n (pc' := 53) dX6_looks_52 rfl rfl ?_
      refine j_iconst (pc' := 54) (v := nI 1) dX6_looks_53 rfl rfl ?_
      refine j_cVi (pc' := 57) m_X6_59 (c_X6_ofv hs (by omega) (by omega) (by first | (simp (disch := omega) only [pk_us, pk_un, sHap_o]; rfl) | rfl)) (by assumption) (by decide) rfl rfl rfl ⟨Nat.le_of_ble_eq_true rfl, Nat.le_of_ble_eq_true rfl⟩ ⟨Nat.zero_le _, Nat.zero_le _⟩ (Nat.le_of_ble_eq_true rfl) dX6_looks_54 rfl (fun x1 I1 hq => ?_)
      obtain ⟨rfl, rfl⟩ := hq
      refine j_aload_n (pc' := 58) dX6_looks_57 rfl rfl ?_
      refine j_iload_n (pc' := 59) dX6_looks_58 rfl rfl ?_
      refine j_iconst (pc' := 60) (v := nI 2) dX6_looks_59 rfl rfl ?_
      refine j_cVi (pc' := 63) m_X6_59 (c_X6_ofv hs (by omega) (by omega) (by first | (simp (disch := omega) only [pk_us, pk_un, sHap_o]; rfl) | rfl)) (by assumption) (by decide) rfl rfl rfl ⟨Nat.le_of_ble_eq_true rfl, Nat.le_of_ble_eq_true rfl⟩ ⟨Nat.zero_le _, Nat.zero_le _⟩ (Nat.le_of_ble_eq_true rfl) dX6_looks_60 rfl (fun x1 I1 hq => ?_)
      obtain ⟨rfl, rfl⟩ := hq
      refine j_aload_n (pc' := 64) dX6_looks_63 rfl rfl ?_
      refine j_iload_n (pc' := 65) dX6_looks_64 rfl rfl ?_
      refine j_bipush (pc' := 67) (v := nI 7) dX6_looks_65 rfl rfl ?_
      refine j_cVi (pc' := 70) m_X6_59 (c_X6_ofv hs (by omega) (by omega) (by first | (simp (disch := omega) only [pk_us, pk_un, sHap_o]; rfl) | rfl)) (by assumption) (by decide) rfl rfl rfl ⟨Nat.le_of_ble_eq_true rfl, Nat.le_of_ble_eq_true rfl⟩ ⟨Nat.zero_le _, Nat.zero_le _⟩ (Nat.le_of_ble_eq_true rfl) dX6_looks_67 rfl (fun x1 I1 hq => ?_)
      obtain ⟨rfl, rfl⟩ := hq
      refine j_cSi (pc' := 73) m_X6_96 (c_X6_isClear E l n kd R _ _ _ _ _) rfl rfl ⟨Nat.le_of_ble_eq_true rfl, Nat.le_of_ble_eq_true rfl⟩ ⟨Nat.zero_le _, Nat.zero_le _⟩ (Nat.le_of_ble_eq_true rfl) dX6_looks_70 rfl (fun x1 I1 hq => ?_)
      obtain ⟨rfl, rfl⟩ := hq
      refine j_istore_n (pc' := 74) (lv' := [_, _, _, _]) dX6_looks_73 rfl (by decide) rfl ?_
      refine j_aload_n (pc' := 75) dX6_looks_74 rfl rfl ?_
      refine j_iload_n (pc' := 76) dX6_looks_75 rfl rfl ?_
      refine j_bipush (pc' := 78) (v := nI 11) dX6_looks_76 rfl rfl ?_
      refine j_iload_n (pc' := 79) dX6_looks_78 rfl rfl ?_
      first | refine j_if_eqB' (tgt := 94) (pc' := 82) (by with_reducible rfl) dX6_looks_79 rfl (by decide) (fun c79 => ?_) (fun c79 => ?_) | refine j_if_eqN' (tgt := 94) (pc' := 82) (by with_reducible rfl) (by omega) dX6_looks_79 rfl (by decide) (fun c79 => ?_) (fun c79 => ?_) | refine j_if_eq (tgt := 94) (pc' := 82) dX6_looks_79 rfl (by decide) (fun c79 => ?_) (fun c79 => ?_)
      ·
        have hg : lkG v i = false := by
          unfold lkG
          first | (rw [if_pos g9]; exact c79) | (rw [if_neg g9]; exact c79)
        have hcc : lkC v i = nI 0 := by rw [lkC, if_neg (by rw [hg]; decide)]
        refine j_iconst (pc' := 95) (v := nI 0) dX6_looks_94 rfl rfl ?_
        refine j_cVv (pc' := 98) m_X6_44 (c_X6_puts hs (by omega) (by omega)) (by assumption) (by decide) rfl rfl rfl ⟨Nat.le_of_ble_eq_true rfl, Nat.le_of_ble_eq_true rfl⟩ ⟨Nat.zero_le _, Nat.zero_le _⟩ (Nat.le_of_ble_eq_true rfl) dX6_looks_95 rfl (fun I1 hq => ?_)
        subst hq
        refine j_aload_n (pc' := 99) dX6_looks_98 rfl rfl ?_
        refine j_iload_n (pc' := 100) dX6_looks_99 rfl rfl ?_
        refine j_bipush (pc' := 102) (v := nI 11) dX6_looks_100 rfl rfl ?_
        refine j_cVi (pc' := 105) m_X6_59 (c_X6_ofv hs (by omega) (by omega) (by first | (simp (disch := omega) only [pk_us, pk_un, sHap_o]; rfl) | rfl)) (by assumption) (by decide) rfl rfl rfl ⟨Nat.le_of_ble_eq_true rfl, Nat.le_of_ble_eq_true rfl⟩ ⟨Nat.zero_le _, Nat.zero_le _⟩ (Nat.le_of_ble_eq_true rfl) dX6_looks_102 rfl (fun x1 I1 hq => ?_)
        obtain ⟨rfl, rfl⟩ := hq
        refine j_aload_n (pc' := 106) dX6_looks_105 rfl rfl ?_
        refine j_iload_n (pc' := 107) dX6_looks_106 rfl rfl ?_
        refine j_iload_n (pc' := 108) dX6_looks_107 rfl rfl ?_
        first | refine j_if_eqB' (tgt := 115) (pc' := 111) (by with_reducible rfl) dX6_looks_108 rfl (by decide) (fun c108 => ?_) (fun c108 => ?_) | refine j_if_eqN' (tgt := 115) (pc' := 111) (by with_reducible rfl) (by omega) dX6_looks_108 rfl (by decide) (fun c108 => ?_) (fun c108 => ?_) | refine j_if_eq (tgt := 115) (pc' := 111) dX6_looks_108 rfl (by decide) (fun c108 => ?_) (fun c108 => ?_)
        ·
          skip
          refine j_iconst (pc' := 116) (v := nI 4) dX6_looks_115 rfl rfl ?_
          refine j_cVi (pc' := 119) m_X6_59 (c_X6_ofv hs (by omega) (by omega) (by first | (simp (disch := omega) only [pk_us, pk_un, sHap_o]; rfl) | rfl)) (by assumption) (by decide) rfl rfl rfl ⟨Nat.le_of_ble_eq_true rfl, Nat.le_of_ble_eq_true rfl⟩ ⟨Nat.zero_le _, Nat.zero_le _⟩ (Nat.le_of_ble_eq_true rfl) dX6_looks_116 rfl (fun x1 I1 hq => ?_)
          obtain ⟨rfl, rfl⟩ := hq
          first | refine j_icmp_leN' (tgt := 233) (pc' := 122) (by with_reducible rfl) (by with_reducible rfl) (by omega) (by omega) dX6_looks_119 rfl (by decide) (fun c119 => ?_) (fun c119 => ?_) | refine j_icmp_le (tgt := 233) (pc' := 122) dX6_looks_119 rfl (by decide) (fun c119 => ?_) (fun c119 => ?_)
          ·
            refine j_retv dX6_looks_233 rfl ?_
            rw [sLook, if_neg g9, hcc]
            first | rw [if_pos c119] | rw [if_neg c119]
          ·
            refine j_aload_n (pc' := 123) dX6_looks_122 rfl rfl ?_
            refine j_iload_n (pc' := 124) dX6_looks_123 rfl rfl ?_
            refine j_bipush (pc' := 126) (v := nI 11) dX6_looks_124 rfl rfl ?_
            refine j_iconst (pc' := 127) (v := nI 0) dX6_looks_126 rfl rfl ?_
            refine j_cVv (pc' := 130) m_X6_44 (c_X6_puts hs (by omega) (by omega)) (by assumption) (by decide) rfl rfl rfl ⟨Nat.le_of_ble_eq_true rfl, Nat.le_of_ble_eq_true rfl⟩ ⟨Nat.zero_le _, Nat.zero_le _⟩ (Nat.le_of_ble_eq_true rfl) dX6_looks_127 rfl (fun I1 hq => ?_)
            subst hq
            refine j_aload_n (pc' := 131) dX6_looks_130 rfl rfl ?_
            refine j_iload_n (pc' := 132) dX6_looks_131 rfl rfl ?_
            refine j_bipush (pc' := 134) (v := nI 9) dX6_looks_132 rfl rfl ?_
            refine j_iload_n (pc' := 135) dX6_looks_134 rfl rfl ?_
            first | refine j_if_eqB' (tgt := 142) (pc' := 138) (by with_reducible rfl) dX6_looks_135 rfl (by decide) (fun c135 => ?_) (fun c135 => ?_) | refine j_if_eqN' (tgt := 142) (pc' := 138) (by with_reducible rfl) (by omega) dX6_looks_135 rfl (by decide) (fun c135 => ?_) (fun c135 => ?_) | refine j_if_eq (tgt := 142) (pc' := 138) dX6_looks_135 rfl (by decide) (fun c135 => ?_) (fun c135 => ?_)
            ·
              skip
              refine j_iconst (pc' := 143) (v := nI 0) dX6_looks_142 rfl rfl ?_
              refine j_cVv (pc' := 146) m_X6_44 (c_X6_puts hs (by omega) (by omega)) (by assumption) (by decide) rfl rfl rfl ⟨Nat.le_of_ble_eq_true rfl, Nat.le_of_ble_eq_true rfl⟩ ⟨Nat.zero_le _, Nat.zero_le _⟩ (Nat.le_of_ble_eq_true rfl) dX6_looks_143 rfl (fun I1 hq => ?_)
              subst hq
              refine j_iload_n (pc' := 147) dX6_looks_146 rfl rfl ?_
              first | refine j_if_eqB' (tgt := 219) (pc' := 150) (by with_reducible rfl) dX6_looks_147 rfl (by decide) (fun c147 => ?_) (fun c147 => ?_) | refine j_if_eqN' (tgt := 219) (pc' := 150) (by with_reducible rfl) (by omega) dX6_looks_147 rfl (by decide) (fun c147 => ?_) (fun c147 => ?_) | refine j_if_eq (tgt := 219) (pc' := 150) dX6_looks_147 rfl (by decide) (fun c147 => ?_) (fun c147 => ?_)
              ·
                skip
                refine j_aload_n (pc' := 220) dX6_looks_219 rfl rfl ?_
                refine j_iload_n (pc' := 221) dX6_looks_220 rfl rfl ?_
                first | refine j_if_eqB' (tgt := 228) (pc' := 224) (by with_reducible rfl) dX6_looks_221 rfl (by decide) (fun c221 => ?_) (fun c221 => ?_) | refine j_if_eqN' (tgt := 228) (pc' := 224) (by with_reducible rfl) (by omega) dX6_looks_221 rfl (by decide) (fun c221 => ?_) (fun c221 => ?_) | refine j_if_eq (tgt := 228) (pc' := 224) dX6_looks_221 rfl (by decide) (fun c221 => ?_) (fun c221 => ?_)
                ·
                  skip
                  refine j_iconst (pc' := 229) (v := nI 2) dX6_looks_228 rfl rfl ?_
                  refine j_iload_n (pc' := 230) dX6_looks_229 rfl rfl ?_
                  refine j_cVv (pc' := 233) m_X6_48 (c_X6_happens hs (N := N) (by simp (disch := omega) only [pk_us, pk_un, hN]) hNb) (by assumption) (by decide) rfl rfl rfl ⟨Nat.le_of_ble_eq_true rfl, Nat.le_of_ble_eq_true rfl⟩ ⟨Nat.zero_le _, Nat.zero_le _⟩ (Nat.le_of_ble_eq_true rfl) dX6_looks_230 rfl (fun I1 hq => ?_)
                  subst hq
                  refine j_retv dX6_looks_233 rfl ?_
                  rw [sLook, if_neg g9, hcc]
                  first | rw [if_pos c119] | rw [if_neg c119]
                ·
                  exact absurd rfl c221
              ·
                exact absurd rfl c147
            ·
              exact absurd rfl c135
        ·
          exact absurd rfl c108
      ·
        have hg : lkG v i = true := by
          unfold lkG
          first | (rw [if_pos g9]; exact c79) | (rw [if_neg g9]; exact c79)
        have hcc : lkC v i = v (176 + 56 * i + 11) + nI 1 := by rw [lkC, if_pos hg]
        refine j_aload_n (pc' := 83) dX6_looks_82 rfl rfl ?_
        refine j_iload_n (pc' := 84) dX6_looks_83 rfl rfl ?_
        refine j_bipush (pc' := 86) (v := nI 11) dX6_looks_84 rfl rfl ?_
        refine j_cVi (pc' := 89) m_X6_59 (c_X6_ofv hs (by omega) (by omega) (by first | (simp (disch := omega) only [pk_us, pk_un, sHap_o]; rfl) | rfl)) (by assumption) (by decide) rfl rfl rfl ⟨Nat.le_of_ble_eq_true rfl, Nat.le_of_ble_eq_true rfl⟩ ⟨Nat.zero_le _, Nat.zero_le _⟩ (Nat.le_of_ble_eq_true rfl) dX6_looks_86 rfl (fun x1 I1 hq => ?_)
        obtain ⟨rfl, rfl⟩ := hq
        refine j_iconst (pc' := 90) (v := nI 1) dX6_looks_89 rfl rfl ?_
        first | refine j_iaddN' (pc' := 91) (by with_reducible rfl) (by with_reducible rfl) dX6_looks_90 rfl ?_ | refine j_iadd (pc' := 91) dX6_looks_90 rfl ?_
        refine j_goto (tgt := 95) dX6_looks_91 (by decide) ?_
        refine j_cVv (pc' := 98) m_X6_44 (c_X6_puts hs (by omega) (by omega)) (by assumption) (by decide) rfl rfl rfl ⟨Nat.le_of_ble_eq_true rfl, Nat.le_of_ble_eq_true rfl⟩ ⟨Nat.zero_le _, Nat.zero_le _⟩ (Nat.le_of_ble_eq_true rfl) dX6_looks_95 rfl (fun I1 hq => ?_)
        subst hq
        refine j_aload_n (pc' := 99) dX6_looks_98 rfl rfl ?_
        refine j_iload_n (pc' := 100) dX6_looks_99 rfl rfl ?_
        refine j_bipush (pc' := 102) (v := nI 11) dX6_looks_100 rfl rfl ?_
        refine j_cVi (pc' := 105) m_X6_59 (c_X6_ofv hs (by omega) (by omega) (by first | (simp (disch := omega) only [pk_us, pk_un, sHap_o]; rfl) | rfl)) (by assumption) (by decide) rfl rfl rfl ⟨Nat.le_of_ble_eq_true rfl, Nat.le_of_ble_eq_true rfl⟩ ⟨Nat.zero_le _, Nat.zero_le _⟩ (Nat.le_of_ble_eq_true rfl) dX6_looks_102 rfl (fun x1 I1 hq => ?_)
        obtain ⟨rfl, rfl⟩ := hq
        refine j_aload_n (pc' := 106) dX6_looks_105 rfl rfl ?_
        refine j_iload_n (pc' := 107) dX6_looks_106 rfl rfl ?_
        refine j_iload_n (pc' := 108) dX6_looks_107 rfl rfl ?_
        first | refine j_if_eqB' (tgt := 115) (pc' := 111) (by with_reducible rfl) dX6_looks_108 rfl (by decide) (fun c108 => ?_) (fun c108 => ?_) | refine j_if_eqN' (tgt := 115) (pc' := 111) (by with_reducible rfl) (by omega) dX6_looks_108 rfl (by decide) (fun c108 => ?_) (fun c108 => ?_) | refine j_if_eq (tgt := 115) (pc' := 111) dX6_looks_108 rfl (by decide) (fun c108 => ?_) (fun c108 => ?_)
        ·
          skip
          refine j_iconst (pc' := 116) (v := nI 4) dX6_looks_115 rfl rfl ?_
          refine j_cVi (pc' := 119) m_X6_59 (c_X6_ofv hs (by omega) (by omega) (by first | (simp (disch := omega) only [pk_us, pk_un, sHap_o]; rfl) | rfl)) (by assumption) (by decide) rfl rfl rfl ⟨Nat.le_of_ble_eq_true rfl, Nat.le_of_ble_eq_true rfl⟩ ⟨Nat.zero_le _, Nat.zero_le _⟩ (Nat.le_of_ble_eq_true rfl) dX6_looks_116 rfl (fun x1 I1 hq => ?_)
          obtain ⟨rfl, rfl⟩ := hq
          first | refine j_icmp_leN' (tgt := 233) (pc' := 122) (by with_reducible rfl) (by with_reducible rfl) (by omega) (by omega) dX6_looks_119 rfl (by decide) (fun c119 => ?_) (fun c119 => ?_) | refine j_icmp_le (tgt := 233) (pc' := 122) dX6_looks_119 rfl (by decide) (fun c119 => ?_) (fun c119 => ?_)
          ·
            refine j_retv dX6_looks_233 rfl ?_
            rw [sLook, if_neg g9, hcc]
            first | rw [if_pos c119] | rw [if_neg c119]
          ·
            refine j_aload_n (pc' := 123) dX6_looks_122 rfl rfl ?_
            refine j_iload_n (pc' := 124) dX6_looks_123 rfl rfl ?_
            refine j_bipush (pc' := 126) (v := nI 11) dX6_looks_124 rfl rfl ?_
            refine j_iconst (pc' := 127) (v := nI 0) dX6_looks_126 rfl rfl ?_
            refine j_cVv (pc' := 130) m_X6_44 (c_X6_puts hs (by omega) (by omega)) (by assumption) (by decide) rfl rfl rfl ⟨Nat.le_of_ble_eq_true rfl, Nat.le_of_ble_eq_true rfl⟩ ⟨Nat.zero_le _, Nat.zero_le _⟩ (Nat.le_of_ble_eq_true rfl) dX6_looks_127 rfl (fun I1 hq => ?_)
            subst hq
            refine j_aload_n (pc' := 131) dX6_looks_130 rfl rfl ?_
            refine j_iload_n (pc' := 132) dX6_looks_131 rfl rfl ?_
            refine j_bipush (pc' := 134) (v := nI 9) dX6_looks_132 rfl rfl ?_
            refine j_iload_n (pc' := 135) dX6_looks_134 rfl rfl ?_
            first | refine j_if_eqB' (tgt := 142) (pc' := 138) (by with_reducible rfl) dX6_looks_135 rfl (by decide) (fun c135 => ?_) (fun c135 => ?_) | refine j_if_eqN' (tgt := 142) (pc' := 138) (by with_reducible rfl) (by omega) dX6_looks_135 rfl (by decide) (fun c135 => ?_) (fun c135 => ?_) | refine j_if_eq (tgt := 142) (pc' := 138) dX6_looks_135 rfl (by decide) (fun c135 => ?_) (fun c135 => ?_)
            ·
              skip
              refine j_iconst (pc' := 143) (v := nI 0) dX6_looks_142 rfl rfl ?_
              refine j_cVv (pc' := 146) m_X6_44 (c_X6_puts hs (by omega) (by omega)) (by assumption) (by decide) rfl rfl rfl ⟨Nat.le_of_ble_eq_true rfl, Nat.le_of_ble_eq_true rfl⟩ ⟨Nat.zero_le _, Nat.zero_le _⟩ (Nat.le_of_ble_eq_true rfl) dX6_looks_143 rfl (fun I1 hq => ?_)
              subst hq
              refine j_iload_n (pc' := 147) dX6_looks_146 rfl rfl ?_
              first | refine j_if_eqB' (tgt := 219) (pc' := 150) (by with_reducible rfl) dX6_looks_147 rfl (by decide) (fun c147 => ?_) (fun c147 => ?_) | refine j_if_eqN' (tgt := 219) (pc' := 150) (by with_reducible rfl) (by omega) dX6_looks_147 rfl (by decide) (fun c147 => ?_) (fun c147 => ?_) | refine j_if_eq (tgt := 219) (pc' := 150) dX6_looks_147 rfl (by decide) (fun c147 => ?_) (fun c147 => ?_)
              ·
                skip
                refine j_aload_n (pc' := 220) dX6_looks_219 rfl rfl ?_
                refine j_iload_n (pc' := 221) dX6_looks_220 rfl rfl ?_
                first | refine j_if_eqB' (tgt := 228) (pc' := 224) (by with_reducible rfl) dX6_looks_221 rfl (by decide) (fun c221 => ?_) (fun c221 => ?_) | refine j_if_eqN' (tgt := 228) (pc' := 224) (by with_reducible rfl) (by omega) dX6_looks_221 rfl (by decide) (fun c221 => ?_) (fun c221 => ?_) | refine j_if_eq (tgt := 228) (pc' := 224) dX6_looks_221 rfl (by decide) (fun c221 => ?_) (fun c221 => ?_)
                ·
                  skip
                  refine j_iconst (pc' := 229) (v := nI 2) dX6_looks_228 rfl rfl ?_
                  refine j_iload_n (pc' := 230) dX6_looks_229 rfl rfl ?_
                  refine j_cVv (pc' := 233) m_X6_48 (c_X6_happens hs (N := N) (by simp (disch := omega) only [pk_us, pk_un, hN]) hNb) (by assumption) (by decide) rfl rfl rfl ⟨Nat.le_of_ble_eq_true rfl, Nat.le_of_ble_eq_true rfl⟩ ⟨Nat.zero_le _, Nat.zero_le _⟩ (Nat.le_of_ble_eq_true rfl) dX6_looks_230 rfl (fun I1 hq => ?_)
                  subst hq
                  refine j_retv dX6_looks_233 rfl ?_
                  rw [sLook, if_neg g9, hcc]
                  first | rw [if_pos c119] | rw [if_neg c119]
                ·
                  exact absurd rfl c221
              ·
                exact absurd rfl c147
            ·
              exact absurd rfl c135
        ·
          exact absurd rfl c108
    ·
      exact absurd rfl c17
  ·
    have g9 := c7
    refine j_iconst (pc' := 11) (v := nI 1) dX6_looks_10 rfl rfl ?_
    refine j_goto (tgt := 15) dX6_looks_11 (by decide) ?_
    refine j_istore_n (pc' := 16) (lv' := [_, _, _, _]) dX6_looks_15 rfl (by decide) rfl ?_
    refine j_iload_n (pc' := 17) dX6_looks_16 rfl rfl ?_
    first | refine j_if_eqB' (tgt := 45) (pc' := 20) (by with_reducible rfl) dX6_looks_17 rfl (by decide) (fun c17 => ?_) (fun c17 => ?_) | refine j_if_eqN' (tgt := 45) (pc' := 20) (by with_reducible rfl) (by omega) dX6_looks_17 rfl (by decide) (fun c17 => ?_) (fun c17 => ?_) | refine j_if_eq (tgt := 45) (pc' := 20) dX6_looks_17 rfl (by decide) (fun c17 => ?_) (fun c17 => ?_)
    ·
      exact absurd c17 (by decide)
    ·
      skip
      refine j_aload_n (pc' := 21) dX6_looks_20 rfl rfl ?_
      refine j_iload_n (pc' := 22) dX6_looks_21 rfl rfl ?_
      refine j_iconst (pc' := 23) (v := nI 0) dX6_looks_22 rfl rfl ?_
      refine j_cVi (pc' := 26) m_X6_59 (c_X6_ofv hs (by omega) (by omega) (by first | (simp (disch := omega) only [pk_us, pk_un, sHap_o]; rfl) | rfl)) (by assumption) (by decide) rfl rfl rfl ⟨Nat.le_of_ble_eq_true rfl, Nat.le_of_ble_eq_true rfl⟩ ⟨Nat.zero_le _, Nat.zero_le _⟩ (Nat.le_of_ble_eq_true rfl) dX6_looks_23 rfl (fun x1 I1 hq => ?_)
      obtain ⟨rfl, rfl⟩ := hq
      refine j_aload_n (pc' := 27) dX6_looks_26 rfl rfl ?_
      refine j_iload_n (pc' := 28) dX6_looks_27 rfl rfl ?_
      refine j_iconst (pc' := 29) (v := nI 1) dX6_looks_28 rfl rfl ?_
      refine j_cVi (pc' := 32) m_X6_59 (c_X6_ofv hs (by omega) (by omega) (by first | (simp (disch := omega) only [pk_us, pk_un, sHap_o]; rfl) | rfl)) (by assumption) (by decide) rfl rfl rfl ⟨Nat.le_of_ble_eq_true rfl, Nat.le_of_ble_eq_true rfl⟩ ⟨Nat.zero_le _, Nat.zero_le _⟩ (Nat.le_of_ble_eq_true rfl) dX6_looks_29 rfl (fun x1 I1 hq => ?_)
      obtain ⟨rfl, rfl⟩ := hq
      refine j_aload_n (pc' := 33) dX6_looks_32 rfl rfl ?_
      refine j_iload_n (pc' := 34) dX6_looks_33 rfl rfl ?_
      refine j_bipush (pc' := 36) (v := nI 7) dX6_looks_34 rfl rfl ?_
      refine j_cVi (pc' := 39) m_X6_59 (c_X6_ofv hs (by omega) (by omega) (by first | (simp (disch := omega) only [pk_us, pk_un, sHap_o]; rfl) | rfl)) (by assumption) (by decide) rfl rfl rfl ⟨Nat.le_of_ble_eq_true rfl, Nat.le_of_ble_eq_true rfl⟩ ⟨Nat.zero_le _, Nat.zero_le _⟩ (Nat.le_of_ble_eq_true rfl) dX6_looks_36 rfl (fun x1 I1 hq => ?_)
      obtain ⟨rfl, rfl⟩ := hq
      refine j_cSi (pc' := 42) m_X6_93 (c_X6_isOver E l n kd R _ _ _ _) rfl rfl ⟨Nat.le_of_ble_eq_true rfl, Nat.le_of_ble_eq_true rfl⟩ ⟨Nat.zero_le _, Nat.zero_le _⟩ (Nat.le_of_ble_eq_true rfl) dX6_looks_39 rfl (fun x1 I1 hq => ?_)
      obtain ⟨rfl, rfl⟩ := hq
      refine j_goto (tgt := 73) dX6_looks_42 (by decide) ?_
      refine j_istore_n (pc' := 74) (lv' := [_, _, _, _]) dX6_looks_73 rfl (by decide) rfl ?_
      refine j_aload_n (pc' := 75) dX6_looks_74 rfl rfl ?_
      refine j_iload_n (pc' := 76) dX6_looks_75 rfl rfl ?_
      refine j_bipush (pc' := 78) (v := nI 11) dX6_looks_76 rfl rfl ?_
      refine j_iload_n (pc' := 79) dX6_looks_78 rfl rfl ?_
      first | refine j_if_eqB' (tgt := 94) (pc' := 82) (by with_reducible rfl) dX6_looks_79 rfl (by decide) (fun c79 => ?_) (fun c79 => ?_) | refine j_if_eqN' (tgt := 94) (pc' := 82) (by with_reducible rfl) (by omega) dX6_looks_79 rfl (by decide) (fun c79 => ?_) (fun c79 => ?_) | refine j_if_eq (tgt := 94) (pc' := 82) dX6_looks_79 rfl (by decide) (fun c79 => ?_) (fun c79 => ?_)
      ·
        have hg : lkG v i = false := by
          unfold lkG
          first | (rw [if_pos g9]; exact c79) | (rw [if_neg g9]; exact c79)
        have hcc : lkC v i = nI 0 := by rw [lkC, if_neg (by rw [hg]; decide)]
        refine j_iconst (pc' := 95) (v := nI 0) dX6_looks_94 rfl rfl ?_
        refine j_cVv (pc' := 98) m_X6_44 (c_X6_puts hs (by omega) (by omega)) (by assumption) (by decide) rfl rfl rfl ⟨Nat.le_of_ble_eq_true rfl, Nat.le_of_ble_eq_true rfl⟩ ⟨Nat.zero_le _, Nat.zero_le _⟩ (Nat.le_of_ble_eq_true rfl) dX6_looks_95 rfl (fun I1 hq => ?_)
        subst hq
        refine j_aload_n (pc' := 99) dX6_looks_98 rfl rfl ?_
        refine j_iload_n (pc' := 100) dX6_looks_99 rfl rfl ?_
        refine j_bipush (pc' := 102) (v := nI 11) dX6_looks_100 rfl rfl ?_
        refine j_cVi (pc' := 105) m_X6_59 (c_X6_ofv hs (by omega) (by omega) (by first | (simp (disch := omega) only [pk_us, pk_un, sHap_o]; rfl) | rfl)) (by assumption) (by decide) rfl rfl rfl ⟨Nat.le_of_ble_eq_true rfl, Nat.le_of_ble_eq_true rfl⟩ ⟨Nat.zero_le _, Nat.zero_le _⟩ (Nat.le_of_ble_eq_true rfl) dX6_looks_102 rfl (fun x1 I1 hq => ?_)
        obtain ⟨rfl, rfl⟩ := hq
        refine j_aload_n (pc' := 106) dX6_looks_105 rfl rfl ?_
        refine j_iload_n (pc' := 107) dX6_looks_106 rfl rfl ?_
        refine j_iload_n (pc' := 108) dX6_looks_107 rfl rfl ?_
        first | refine j_if_eqB' (tgt := 115) (pc' := 111) (by with_reducible rfl) dX6_looks_108 rfl (by decide) (fun c108 => ?_) (fun c108 => ?_) | refine j_if_eqN' (tgt := 115) (pc' := 111) (by with_reducible rfl) (by omega) dX6_looks_108 rfl (by decide) (fun c108 => ?_) (fun c108 => ?_) | refine j_if_eq (tgt := 115) (pc' := 111) dX6_looks_108 rfl (by decide) (fun c108 => ?_) (fun c108 => ?_)
        ·
          exact absurd c108 (by decide)
        ·
          skip
          refine j_iconst (pc' := 112) (v := nI 3) dX6_looks_111 rfl rfl ?_
          refine j_goto (tgt := 116) dX6_looks_112 (by decide) ?_
          refine j_cVi (pc' := 119) m_X6_59 (c_X6_ofv hs (by omega) (by omega) (by first | (simp (disch := omega) only [pk_us, pk_un, sHap_o]; rfl) | rfl)) (by assumption) (by decide) rfl rfl rfl ⟨Nat.le_of_ble_eq_true rfl, Nat.le_of_ble_eq_true rfl⟩ ⟨Nat.zero_le _, Nat.zero_le _⟩ (Nat.le_of_ble_eq_true rfl) dX6_looks_116 rfl (fun x1 I1 hq => ?_)
          obtain ⟨rfl, rfl⟩ := hq
          first | refine j_icmp_leN' (tgt := 233) (pc' := 122) (by with_reducible rfl) (by with_reducible rfl) (by omega) (by omega) dX6_looks_119 rfl (by decide) (fun c119 => ?_) (fun c119 => ?_) | refine j_icmp_le (tgt := 233) (pc' := 122) dX6_looks_119 rfl (by decide) (fun c119 => ?_) (fun c119 => ?_)
          ·
            refine j_retv dX6_looks_233 rfl ?_
            rw [sLook, if_pos g9, hcc]
            first | rw [if_pos c119] | rw [if_neg c119]
          ·
            refine j_aload_n (pc' := 123) dX6_looks_122 rfl rfl ?_
            refine j_iload_n (pc' := 124) dX6_looks_123 rfl rfl ?_
            refine j_bipush (pc' := 126) (v := nI 11) dX6_looks_124 rfl rfl ?_
            refine j_iconst (pc' := 127) (v := nI 0) dX6_looks_126 rfl rfl ?_
            refine j_cVv (pc' := 130) m_X6_44 (c_X6_puts hs (by omega) (by omega)) (by assumption) (by decide) rfl rfl rfl ⟨Nat.le_of_ble_eq_true rfl, Nat.le_of_ble_eq_true rfl⟩ ⟨Nat.zero_le _, Nat.zero_le _⟩ (Nat.le_of_ble_eq_true rfl) dX6_looks_127 rfl (fun I1 hq => ?_)
            subst hq
            refine j_aload_n (pc' := 131) dX6_looks_130 rfl rfl ?_
            refine j_iload_n (pc' := 132) dX6_looks_131 rfl rfl ?_
            refine j_bipush (pc' := 134) (v := nI 9) dX6_looks_132 rfl rfl ?_
            refine j_iload_n (pc' := 135) dX6_looks_134 rfl rfl ?_
            first | refine j_if_eqB' (tgt := 142) (pc' := 138) (by with_reducible rfl) dX6_looks_135 rfl (by decide) (fun c135 => ?_) (fun c135 => ?_) | refine j_if_eqN' (tgt := 142) (pc' := 138) (by with_reducible rfl) (by omega) dX6_looks_135 rfl (by decide) (fun c135 => ?_) (fun c135 => ?_) | refine j_if_eq (tgt := 142) (pc' := 138) dX6_looks_135 rfl (by decide) (fun c135 => ?_) (fun c135 => ?_)
            ·
              exact absurd c135 (by decide)
            ·
              skip
              refine j_iconst (pc' := 139) (v := nI 1) dX6_looks_138 rfl rfl ?_
              refine j_goto (tgt := 143) dX6_looks_139 (by decide) ?_
              refine j_cVv (pc' := 146) m_X6_44 (c_X6_puts hs (by omega) (by omega)) (by assumption) (by decide) rfl rfl rfl ⟨Nat.le_of_ble_eq_true rfl, Nat.le_of_ble_eq_true rfl⟩ ⟨Nat.zero_le _, Nat.zero_le _⟩ (Nat.le_of_ble_eq_true rfl) dX6_looks_143 rfl (fun I1 hq => ?_)
              subst hq
              refine j_iload_n (pc' := 147) dX6_looks_146 rfl rfl ?_
              first | refine j_if_eqB' (tgt := 219) (pc' := 150) (by with_reducible rfl) dX6_looks_147 rfl (by decide) (fun c147 => ?_) (fun c147 => ?_) | refine j_if_eqN' (tgt := 219) (pc' := 150) (by with_reducible rfl) (by omega) dX6_looks_147 rfl (by decide) (fun c147 => ?_) (fun c147 => ?_) | refine j_if_eq (tgt := 219) (pc' := 150) dX6_looks_147 rfl (by decide) (fun c147 => ?_) (fun c147 => ?_)
              ·
                exact absurd c147 (by decide)
              ·
                skip
                refine j_aload_n (pc' := 151) dX6_looks_150 rfl rfl ?_
                refine j_iload_n (pc' := 152) dX6_looks_151 rfl rfl ?_
                refine j_bipush (pc' := 154) (v := nI 10) dX6_looks_152 rfl rfl ?_
                refine j_iconst (pc' := 155) (v := nI 0) dX6_looks_154 rfl rfl ?_
                refine j_cVv (pc' := 158) m_X6_44 (c_X6_puts hs (by omega) (by omega)) (by assumption) (by decide) rfl rfl rfl ⟨Nat.le_of_ble_eq_true rfl, Nat.le_of_ble_eq_true rfl⟩ ⟨Nat.zero_le _, Nat.zero_le _⟩ (Nat.le_of_ble_eq_true rfl) dX6_looks_155 rfl (fun I1 hq => ?_)
                subst hq
                refine j_aload_n (pc' := 159) dX6_looks_158 rfl rfl ?_
                refine j_iload_n (pc' := 160) dX6_looks_159 rfl rfl ?_
                refine j_bipush (pc' := 162) (v := nI 12) dX6_looks_160 rfl rfl ?_
                refine j_aload_n (pc' := 163) dX6_looks_162 rfl rfl ?_
                refine j_getR (pc' := 166) f_X6_7 (by assumption) (by assumption) dX6_looks_163 rfl ?_
                refine j_iconst (pc' := 167) (v := nI 1) dX6_looks_166 rfl rfl ?_
                refine j_ialdv (pc' := 168) (by assumption) rfl (by omega) (by omega) (by first | (simp (disch := omega) only [jx_upS, jx_upK, jx_upA, mI_0, mI_1, mI_2, mI_3, mI_4, mI_5, mI_6, pk_us, pk_un, hT]; rfl) | rfl) dX6_looks_167 rfl ?_
                refine j_cVv (pc' := 171) m_X6_44 (c_X6_puts hs (by omega) (by omega)) (by assumption) (by decide) rfl rfl rfl ⟨Nat.le_of_ble_eq_true rfl, Nat.le_of_ble_eq_true rfl⟩ ⟨Nat.zero_le _, Nat.zero_le _⟩ (Nat.le_of_ble_eq_true rfl) dX6_looks_168 rfl (fun I1 hq => ?_)
                subst hq
                refine j_aload_n (pc' := 172) dX6_looks_171 rfl rfl ?_
                refine j_iload_n (pc' := 173) dX6_looks_172 rfl rfl ?_
                refine j_bipush (pc' := 175) (v := nI 14) dX6_looks_173 rfl rfl ?_
                refine j_aload_n (pc' := 176) dX6_looks_175 rfl rfl ?_
                refine j_iload_n (pc' := 177) dX6_looks_176 rfl rfl ?_
                refine j_bipush (pc' := 179) (v := nI 14) dX6_looks_177 rfl rfl ?_
                refine j_cVi (pc' := 182) m_X6_59 (c_X6_ofv hs (by omega) (by omega) (by first | (simp (disch := omega) only [pk_us, pk_un, sHap_o]; rfl) | rfl)) (by assumption) (by decide) rfl rfl rfl ⟨Nat.le_of_ble_eq_true rfl, Nat.le_of_ble_eq_true rfl⟩ ⟨Nat.zero_le _, Nat.zero_le _⟩ (Nat.le_of_ble_eq_true rfl) dX6_looks_179 rfl (fun x1 I1 hq => ?_)
                obtain ⟨rfl, rfl⟩ := hq
                refine j_iconst (pc' := 183) (v := nI 1) dX6_looks_182 rfl rfl ?_
                first | refine j_iaddN' (pc' := 184) (by with_reducible rfl) (by with_reducible rfl) dX6_looks_183 rfl ?_ | refine j_iadd (pc' := 184) dX6_looks_183 rfl ?_
                refine j_cVv (pc' := 187) m_X6_44 (c_X6_puts hs (by omega) (by omega)) (by assumption) (by decide) rfl rfl rfl ⟨Nat.le_of_ble_eq_true rfl, Nat.le_of_ble_eq_true rfl⟩ ⟨Nat.zero_le _, Nat.zero_le _⟩ (Nat.le_of_ble_eq_true rfl) dX6_looks_184 rfl (fun I1 hq => ?_)
                subst hq
                refine j_aload_n (pc' := 188) dX6_looks_187 rfl rfl ?_
                refine j_getR (pc' := 191) f_X6_7 (by assumption) (by assumption) dX6_looks_188 rfl ?_
                refine j_bipush (pc' := 193) (v := nI 8) dX6_looks_191 rfl rfl ?_
                refine j_dup2 (pc' := 194) dX6_looks_193 rfl rfl rfl ?_
                refine j_ialdv (pc' := 195) (by assumption) rfl (by omega) (by omega) (by first | (simp (disch := omega) only [jx_upS, jx_upK, jx_upA, mI_0, mI_1, mI_2, mI_3, mI_4, mI_5, mI_6, pk_us, pk_un, hT]; rfl) | rfl) dX6_looks_194 rfl ?_
                refine j_iconst (pc' := 196) (v := nI 1) dX6_looks_195 rfl rfl ?_
                first | refine j_iaddN' (pc' := 197) (by with_reducible rfl) (by with_reducible rfl) dX6_looks_196 rfl ?_ | refine j_iadd (pc' := 197) dX6_looks_196 rfl ?_
                refine j_iast (pc' := 198) (by assumption) rfl (by omega) (by omega) dX6_looks_197 rfl ?_
                first | refine j_eqI mW_1 ?_ | refine j_eqI mW_2 ?_ | refine j_eqI mW_3 ?_ | refine j_eqI mW_4 ?_ | refine j_eqI mW_5 ?_ | refine j_eqI mW_6 ?_
                refine j_aload_n (pc' := 199) dX6_looks_198 rfl rfl ?_
                refine j_getR (pc' := 202) f_X6_7 (by assumption) (by assumption) dX6_looks_199 rfl ?_
                refine j_bipush (pc' := 204) (v := nI 16) dX6_looks_202 rfl rfl ?_
                refine j_aload_n (pc' := 205) dX6_looks_204 rfl rfl ?_
                refine j_getR (pc' := 208) f_X6_7 (by assumption) (by assumption) dX6_looks_205 rfl ?_
                refine j_iconst (pc' := 209) (v := nI 1) dX6_looks_208 rfl rfl ?_
                refine j_ialdv (pc' := 210) (by assumption) rfl (by omega) (by omega) (by first | (simp (disch := omega) only [jx_upS, jx_upK, jx_upA, mI_0, mI_1, mI_2, mI_3, mI_4, mI_5, mI_6, pk_us, pk_un, hT]; rfl) | rfl) dX6_looks_209 rfl ?_
                refine j_bipush (pc' := 212) (v := nI 64) dX6_looks_210 rfl rfl ?_
                refine j_iremN' (pc' := 213) (by with_reducible rfl) (by with_reducible rfl) (by omega) (by omega) (by omega) dX6_looks_212 rfl ?_
                first | refine j_iaddN' (pc' := 214) (by with_reducible rfl) (by with_reducible rfl) dX6_looks_213 rfl ?_ | refine j_iadd (pc' := 214) dX6_looks_213 rfl ?_
                refine j_dup2 (pc' := 215) dX6_looks_214 rfl rfl rfl ?_
                refine j_ialdv (pc' := 216) (by assumption) rfl (by omega) (by omega) (by first | (simp (disch := omega) only [jx_upS, jx_upK, jx_upA, mI_0, mI_1, mI_2, mI_3, mI_4, mI_5, mI_6, pk_us, pk_un, hT]; rfl) | rfl) dX6_looks_215 rfl ?_
                refine j_iconst (pc' := 217) (v := nI 1) dX6_looks_216 rfl rfl ?_
                first | refine j_iaddN' (pc' := 218) (by with_reducible rfl) (by with_reducible rfl) dX6_looks_217 rfl ?_ | refine j_iadd (pc' := 218) dX6_looks_217 rfl ?_
                refine j_iast (pc' := 219) (by assumption) rfl (by omega) (by omega) dX6_looks_218 rfl ?_
                first | refine j_eqI mW_1 ?_ | refine j_eqI mW_2 ?_ | refine j_eqI mW_3 ?_ | refine j_eqI mW_4 ?_ | refine j_eqI mW_5 ?_ | refine j_eqI mW_6 ?_
                refine j_aload_n (pc' := 220) dX6_looks_219 rfl rfl ?_
                refine j_iload_n (pc' := 221) dX6_looks_220 rfl rfl ?_
                first | refine j_if_eqB' (tgt := 228) (pc' := 224) (by with_reducible rfl) dX6_looks_221 rfl (by decide) (fun c221 => ?_) (fun c221 => ?_) | refine j_if_eqN' (tgt := 228) (pc' := 224) (by with_reducible rfl) (by omega) dX6_looks_221 rfl (by decide) (fun c221 => ?_) (fun c221 => ?_) | refine j_if_eq (tgt := 228) (pc' := 224) dX6_looks_221 rfl (by decide) (fun c221 => ?_) (fun c221 => ?_)
                ·
                  exact absurd c221 (by decide)
                ·
                  skip
                  refine j_iconst (pc' := 225) (v := nI 1) dX6_looks_224 rfl rfl ?_
                  refine j_goto (tgt := 229) dX6_looks_225 (by decide) ?_
                  refine j_iload_n (pc' := 230) dX6_looks_229 rfl rfl ?_
                  refine j_cVv (pc' := 233) m_X6_48 (c_X6_happens hs (N := N) (by simp (disch := omega) only [pk_us, pk_un, hN]) hNb) (by assumption) (by decide) rfl rfl rfl ⟨Nat.le_of_ble_eq_true rfl, Nat.le_of_ble_eq_true rfl⟩ ⟨Nat.zero_le _, Nat.zero_le _⟩ (Nat.le_of_ble_eq_true rfl) dX6_looks_230 rfl (fun I1 hq => ?_)
                  subst hq
                  refine j_retv dX6_looks_233 rfl ?_
                  rw [sLook, if_pos g9, hcc]
                  first | rw [if_pos c119] | rw [if_neg c119]
      ·
        have hg : lkG v i = true := by
          unfold lkG
          first | (rw [if_pos g9]; exact c79) | (rw [if_neg g9]; exact c79)
        have hcc : lkC v i = v (176 + 56 * i + 11) + nI 1 := by rw [lkC, if_pos hg]
        refine j_aload_n (pc' := 83) dX6_looks_82 rfl rfl ?_
        refine j_iload_n (pc' := 84) dX6_looks_83 rfl rfl ?_
        refine j_bipush (pc' := 86) (v := nI 11) dX6_looks_84 rfl rfl ?_
        refine j_cVi (pc' := 89) m_X6_59 (c_X6_ofv hs (by omega) (by omega) (by first | (simp (disch := omega) only [pk_us, pk_un, sHap_o]; rfl) | rfl)) (by assumption) (by decide) rfl rfl rfl ⟨Nat.le_of_ble_eq_true rfl, Nat.le_of_ble_eq_true rfl⟩ ⟨Nat.zero_le _, Nat.zero_le _⟩ (Nat.le_of_ble_eq_true rfl) dX6_looks_86 rfl (fun x1 I1 hq => ?_)
        obtain ⟨rfl, rfl⟩ := hq
        refine j_iconst (pc' := 90) (v := nI 1) dX6_looks_89 rfl rfl ?_
        first | refine j_iaddN' (pc' := 91) (by with_reducible rfl) (by with_reducible rfl) dX6_looks_90 rfl ?_ | refine j_iadd (pc' := 91) dX6_looks_90 rfl ?_
        refine j_goto (tgt := 95) dX6_looks_91 (by decide) ?_
        refine j_cVv (pc' := 98) m_X6_44 (c_X6_puts hs (by omega) (by omega)) (by assumption) (by decide) rfl rfl rfl ⟨Nat.le_of_ble_eq_true rfl, Nat.le_of_ble_eq_true rfl⟩ ⟨Nat.zero_le _, Nat.zero_le _⟩ (Nat.le_of_ble_eq_true rfl) dX6_looks_95 rfl (fun I1 hq => ?_)
        subst hq
        refine j_aload_n (pc' := 99) dX6_looks_98 rfl rfl ?_
        refine j_iload_n (pc' := 100) dX6_looks_99 rfl rfl ?_
        refine j_bipush (pc' := 102) (v := nI 11) dX6_looks_100 rfl rfl ?_
        refine j_cVi (pc' := 105) m_X6_59 (c_X6_ofv hs (by omega) (by omega) (by first | (simp (disch := omega) only [pk_us, pk_un, sHap_o]; rfl) | rfl)) (by assumption) (by decide) rfl rfl rfl ⟨Nat.le_of_ble_eq_true rfl, Nat.le_of_ble_eq_true rfl⟩ ⟨Nat.zero_le _, Nat.zero_le _⟩ (Nat.le_of_ble_eq_true rfl) dX6_looks_102 rfl (fun x1 I1 hq => ?_)
        obtain ⟨rfl, rfl⟩ := hq
        refine j_aload_n (pc' := 106) dX6_looks_105 rfl rfl ?_
        refine j_iload_n (pc' := 107) dX6_looks_106 rfl rfl ?_
        refine j_iload_n (pc' := 108) dX6_looks_107 rfl rfl ?_
        first | refine j_if_eqB' (tgt := 115) (pc' := 111) (by with_reducible rfl) dX6_looks_108 rfl (by decide) (fun c108 => ?_) (fun c108 => ?_) | refine j_if_eqN' (tgt := 115) (pc' := 111) (by with_reducible rfl) (by omega) dX6_looks_108 rfl (by decide) (fun c108 => ?_) (fun c108 => ?_) | refine j_if_eq (tgt := 115) (pc' := 111) dX6_looks_108 rfl (by decide) (fun c108 => ?_) (fun c108 => ?_)
        ·
          exact absurd c108 (by decide)
        ·
          skip
          refine j_iconst (pc' := 112) (v := nI 3) dX6_looks_111 rfl rfl ?_
          refine j_goto (tgt := 116) dX6_looks_112 (by decide) ?_
          refine j_cVi (pc' := 119) m_X6_59 (c_X6_ofv hs (by omega) (by omega) (by first | (simp (disch := omega) only [pk_us, pk_un, sHap_o]; rfl) | rfl)) (by assumption) (by decide) rfl rfl rfl ⟨Nat.le_of_ble_eq_true rfl, Nat.le_of_ble_eq_true rfl⟩ ⟨Nat.zero_le _, Nat.zero_le _⟩ (Nat.le_of_ble_eq_true rfl) dX6_looks_116 rfl (fun x1 I1 hq => ?_)
          obtain ⟨rfl, rfl⟩ := hq
          first | refine j_icmp_leN' (tgt := 233) (pc' := 122) (by with_reducible rfl) (by with_reducible rfl) (by omega) (by omega) dX6_looks_119 rfl (by decide) (fun c119 => ?_) (fun c119 => ?_) | refine j_icmp_le (tgt := 233) (pc' := 122) dX6_looks_119 rfl (by decide) (fun c119 => ?_) (fun c119 => ?_)
          ·
            refine j_retv dX6_looks_233 rfl ?_
            rw [sLook, if_pos g9, hcc]
            first | rw [if_pos c119] | rw [if_neg c119]
          ·
            refine j_aload_n (pc' := 123) dX6_looks_122 rfl rfl ?_
            refine j_iload_n (pc' := 124) dX6_looks_123 rfl rfl ?_
            refine j_bipush (pc' := 126) (v := nI 11) dX6_looks_124 rfl rfl ?_
            refine j_iconst (pc' := 127) (v := nI 0) dX6_looks_126 rfl rfl ?_
            refine j_cVv (pc' := 130) m_X6_44 (c_X6_puts hs (by omega) (by omega)) (by assumption) (by decide) rfl rfl rfl ⟨Nat.le_of_ble_eq_true rfl, Nat.le_of_ble_eq_true rfl⟩ ⟨Nat.zero_le _, Nat.zero_le _⟩ (Nat.le_of_ble_eq_true rfl) dX6_looks_127 rfl (fun I1 hq => ?_)
            subst hq
            refine j_aload_n (pc' := 131) dX6_looks_130 rfl rfl ?_
            refine j_iload_n (pc' := 132) dX6_looks_131 rfl rfl ?_
            refine j_bipush (pc' := 134) (v := nI 9) dX6_looks_132 rfl rfl ?_
            refine j_iload_n (pc' := 135) dX6_looks_134 rfl rfl ?_
            first | refine j_if_eqB' (tgt := 142) (pc' := 138) (by with_reducible rfl) dX6_looks_135 rfl (by decide) (fun c135 => ?_) (fun c135 => ?_) | refine j_if_eqN' (tgt := 142) (pc' := 138) (by with_reducible rfl) (by omega) dX6_looks_135 rfl (by decide) (fun c135 => ?_) (fun c135 => ?_) | refine j_if_eq (tgt := 142) (pc' := 138) dX6_looks_135 rfl (by decide) (fun c135 => ?_) (fun c135 => ?_)
            ·
              exact absurd c135 (by decide)
            ·
              skip
              refine j_iconst (pc' := 139) (v := nI 1) dX6_looks_138 rfl rfl ?_
              refine j_goto (tgt := 143) dX6_looks_139 (by decide) ?_
              refine j_cVv (pc' := 146) m_X6_44 (c_X6_puts hs (by omega) (by omega)) (by assumption) (by decide) rfl rfl rfl ⟨Nat.le_of_ble_eq_true rfl, Nat.le_of_ble_eq_true rfl⟩ ⟨Nat.zero_le _, Nat.zero_le _⟩ (Nat.le_of_ble_eq_true rfl) dX6_looks_143 rfl (fun I1 hq => ?_)
              subst hq
              refine j_iload_n (pc' := 147) dX6_looks_146 rfl rfl ?_
              first | refine j_if_eqB' (tgt := 219) (pc' := 150) (by with_reducible rfl) dX6_looks_147 rfl (by decide) (fun c147 => ?_) (fun c147 => ?_) | refine j_if_eqN' (tgt := 219) (pc' := 150) (by with_reducible rfl) (by omega) dX6_looks_147 rfl (by decide) (fun c147 => ?_) (fun c147 => ?_) | refine j_if_eq (tgt := 219) (pc' := 150) dX6_looks_147 rfl (by decide) (fun c147 => ?_) (fun c147 => ?_)
              ·
                exact absurd c147 (by decide)
              ·
                skip
                refine j_aload_n (pc' := 151) dX6_looks_150 rfl rfl ?_
                refine j_iload_n (pc' := 152) dX6_looks_151 rfl rfl ?_
                refine j_bipush (pc' := 154) (v := nI 10) dX6_looks_152 rfl rfl ?_
                refine j_iconst (pc' := 155) (v := nI 0) dX6_looks_154 rfl rfl ?_
                refine j_cVv (pc' := 158) m_X6_44 (c_X6_puts hs (by omega) (by omega)) (by assumption) (by decide) rfl rfl rfl ⟨Nat.le_of_ble_eq_true rfl, Nat.le_of_ble_eq_true rfl⟩ ⟨Nat.zero_le _, Nat.zero_le _⟩ (Nat.le_of_ble_eq_true rfl) dX6_looks_155 rfl (fun I1 hq => ?_)
                subst hq
                refine j_aload_n (pc' := 159) dX6_looks_158 rfl rfl ?_
                refine j_iload_n (pc' := 160) dX6_looks_159 rfl rfl ?_
                refine j_bipush (pc' := 162) (v := nI 12) dX6_looks_160 rfl rfl ?_
                refine j_aload_n (pc' := 163) dX6_looks_162 rfl rfl ?_
                refine j_getR (pc' := 166) f_X6_7 (by assumption) (by assumption) dX6_looks_163 rfl ?_
                refine j_iconst (pc' := 167) (v := nI 1) dX6_looks_166 rfl rfl ?_
                refine j_ialdv (pc' := 168) (by assumption) rfl (by omega) (by omega) (by first | (simp (disch := omega) only [jx_upS, jx_upK, jx_upA, mI_0, mI_1, mI_2, mI_3, mI_4, mI_5, mI_6, pk_us, pk_un, hT]; rfl) | rfl) dX6_looks_167 rfl ?_
                refine j_cVv (pc' := 171) m_X6_44 (c_X6_puts hs (by omega) (by omega)) (by assumption) (by decide) rfl rfl rfl ⟨Nat.le_of_ble_eq_true rfl, Nat.le_of_ble_eq_true rfl⟩ ⟨Nat.zero_le _, Nat.zero_le _⟩ (Nat.le_of_ble_eq_true rfl) dX6_looks_168 rfl (fun I1 hq => ?_)
                subst hq
                refine j_aload_n (pc' := 172) dX6_looks_171 rfl rfl ?_
                refine j_iload_n (pc' := 173) dX6_looks_172 rfl rfl ?_
                refine j_bipush (pc' := 175) (v := nI 14) dX6_looks_173 rfl rfl ?_
                refine j_aload_n (pc' := 176) dX6_looks_175 rfl rfl ?_
                refine j_iload_n (pc' := 177) dX6_looks_176 rfl rfl ?_
                refine j_bipush (pc' := 179) (v := nI 14) dX6_looks_177 rfl rfl ?_
                refine j_cVi (pc' := 182) m_X6_59 (c_X6_ofv hs (by omega) (by omega) (by first | (simp (disch := omega) only [pk_us, pk_un, sHap_o]; rfl) | rfl)) (by assumption) (by decide) rfl rfl rfl ⟨Nat.le_of_ble_eq_true rfl, Nat.le_of_ble_eq_true rfl⟩ ⟨Nat.zero_le _, Nat.zero_le _⟩ (Nat.le_of_ble_eq_true rfl) dX6_looks_179 rfl (fun x1 I1 hq => ?_)
                obtain ⟨rfl, rfl⟩ := hq
                refine j_iconst (pc' := 183) (v := nI 1) dX6_looks_182 rfl rfl ?_
                first | refine j_iaddN' (pc' := 184) (by with_reducible rfl) (by with_reducible rfl) dX6_looks_183 rfl ?_ | refine j_iadd (pc' := 184) dX6_looks_183 rfl ?_
                refine j_cVv (pc' := 187) m_X6_44 (c_X6_puts hs (by omega) (by omega)) (by assumption) (by decide) rfl rfl rfl ⟨Nat.le_of_ble_eq_true rfl, Nat.le_of_ble_eq_true rfl⟩ ⟨Nat.zero_le _, Nat.zero_le _⟩ (Nat.le_of_ble_eq_true rfl) dX6_looks_184 rfl (fun I1 hq => ?_)
                subst hq
                refine j_aload_n (pc' := 188) dX6_looks_187 rfl rfl ?_
                refine j_getR (pc' := 191) f_X6_7 (by assumption) (by assumption) dX6_looks_188 rfl ?_
                refine j_bipush (pc' := 193) (v := nI 8) dX6_looks_191 rfl rfl ?_
                refine j_dup2 (pc' := 194) dX6_looks_193 rfl rfl rfl ?_
                refine j_ialdv (pc' := 195) (by assumption) rfl (by omega) (by omega) (by first | (simp (disch := omega) only [jx_upS, jx_upK, jx_upA, mI_0, mI_1, mI_2, mI_3, mI_4, mI_5, mI_6, pk_us, pk_un, hT]; rfl) | rfl) dX6_looks_194 rfl ?_
                refine j_iconst (pc' := 196) (v := nI 1) dX6_looks_195 rfl rfl ?_
                first | refine j_iaddN' (pc' := 197) (by with_reducible rfl) (by with_reducible rfl) dX6_looks_196 rfl ?_ | refine j_iadd (pc' := 197) dX6_looks_196 rfl ?_
                refine j_iast (pc' := 198) (by assumption) rfl (by omega) (by omega) dX6_looks_197 rfl ?_
                first | refine j_eqI mW_1 ?_ | refine j_eqI mW_2 ?_ | refine j_eqI mW_3 ?_ | refine j_eqI mW_4 ?_ | refine j_eqI mW_5 ?_ | refine j_eqI mW_6 ?_
                refine j_aload_n (pc' := 199) dX6_looks_198 rfl rfl ?_
                refine j_getR (pc' := 202) f_X6_7 (by assumption) (by assumption) dX6_looks_199 rfl ?_
                refine j_bipush (pc' := 204) (v := nI 16) dX6_looks_202 rfl rfl ?_
                refine j_aload_n (pc' := 205) dX6_looks_204 rfl rfl ?_
                refine j_getR (pc' := 208) f_X6_7 (by assumption) (by assumption) dX6_looks_205 rfl ?_
                refine j_iconst (pc' := 209) (v := nI 1) dX6_looks_208 rfl rfl ?_
                refine j_ialdv (pc' := 210) (by assumption) rfl (by omega) (by omega) (by first | (simp (disch := omega) only [jx_upS, jx_upK, jx_upA, mI_0, mI_1, mI_2, mI_3, mI_4, mI_5, mI_6, pk_us, pk_un, hT]; rfl) | rfl) dX6_looks_209 rfl ?_
                refine j_bipush (pc' := 212) (v := nI 64) dX6_looks_210 rfl rfl ?_
                refine j_iremN' (pc' := 213) (by with_reducible rfl) (by with_reducible rfl) (by omega) (by omega) (by omega) dX6_looks_212 rfl ?_
                first | refine j_iaddN' (pc' := 214) (by with_reducible rfl) (by with_reducible rfl) dX6_looks_213 rfl ?_ | refine j_iadd (pc' := 214) dX6_looks_213 rfl ?_
                refine j_dup2 (pc' := 215) dX6_looks_214 rfl rfl rfl ?_
                refine j_ialdv (pc' := 216) (by assumption) rfl (by omega) (by omega) (by first | (simp (disch := omega) only [jx_upS, jx_upK, jx_upA, mI_0, mI_1, mI_2, mI_3, mI_4, mI_5, mI_6, pk_us, pk_un, hT]; rfl) | rfl) dX6_looks_215 rfl ?_
                refine j_iconst (pc' := 217) (v := nI 1) dX6_looks_216 rfl rfl ?_
                first | refine j_iaddN' (pc' := 218) (by with_reducible rfl) (by with_reducible rfl) dX6_looks_217 rfl ?_ | refine j_iadd (pc' := 218) dX6_looks_217 rfl ?_
                refine j_iast (pc' := 219) (by assumption) rfl (by omega) (by omega) dX6_looks_218 rfl ?_
                first | refine j_eqI mW_1 ?_ | refine j_eqI mW_2 ?_ | refine j_eqI mW_3 ?_ | refine j_eqI mW_4 ?_ | refine j_eqI mW_5 ?_ | refine j_eqI mW_6 ?_
                refine j_aload_n (pc' := 220) dX6_looks_219 rfl rfl ?_
                refine j_iload_n (pc' := 221) dX6_looks_220 rfl rfl ?_
                first | refine j_if_eqB' (tgt := 228) (pc' := 224) (by with_reducible rfl) dX6_looks_221 rfl (by decide) (fun c221 => ?_) (fun c221 => ?_) | refine j_if_eqN' (tgt := 228) (pc' := 224) (by with_reducible rfl) (by omega) dX6_looks_221 rfl (by decide) (fun c221 => ?_) (fun c221 => ?_) | refine j_if_eq (tgt := 228) (pc' := 224) dX6_looks_221 rfl (by decide) (fun c221 => ?_) (fun c221 => ?_)
                ·
                  exact absurd c221 (by decide)
                ·
                  skip
                  refine j_iconst (pc' := 225) (v := nI 1) dX6_looks_224 rfl rfl ?_
                  refine j_goto (tgt := 229) dX6_looks_225 (by decide) ?_
                  refine j_iload_n (pc' := 230) dX6_looks_229 rfl rfl ?_
                  refine j_cVv (pc' := 233) m_X6_48 (c_X6_happens hs (N := N) (by simp (disch := omega) only [pk_us, pk_un, hN]) hNb) (by assumption) (by decide) rfl rfl rfl ⟨Nat.le_of_ble_eq_true rfl, Nat.le_of_ble_eq_true rfl⟩ ⟨Nat.zero_le _, Nat.zero_le _⟩ (Nat.le_of_ble_eq_true rfl) dX6_looks_230 rfl (fun I1 hq => ?_)
                  subst hq
                  refine j_retv dX6_looks_233 rfl ?_
                  rw [sLook, if_pos g9, hcc]
                  first | rw [if_pos c119] | rw [if_neg c119]

