set_option maxRecDepth 100000 in
set_option maxHeartbeats 4000000 in
theorem c_L_fails {E : jx_E} {l : Launch} {n : Nat} {kd : jx_K} {R : jx_R} {I : jx_I} {d : Nat} {v p : Nat → Int32} {q B k T S N : Nat} (hD : DK kd R I d v p q B) (hV : VI v k T S N) (hN : N ≤ B) (hB : B + 4000000 < 2147483000) (hk : 0 < k) : jx_CiR E l yL_fails cL_fails 5 (some .boolean) 7 n kd R I [.ref d, .int (nI k)] (fun r R' I' => r = nI 1 ∧ DK kd R' I' d v p q (B + 3000000)) := by
  have h16 := hV.k16
  have Kd := hD.k5
  have ok0 : okP v (nI 0) = true := okP_of hV.z h16 hk
  have hn1 : ¬ nI k = -1 := fun z => nI_pos (show k < 2 ^ 31 from by omega) (z ▸ (by decide : (-1 : Int32) < 0))
  refine jx_CtR.ofJ RL [some (.ref d), some (.int (nI k)), none, none, none] (by decide) rfl rfl (Nat.le_of_ble_eq_true rfl) rfl ?_
  refine j_aload_n (pc' := 1) dL_fails_0 rfl rfl ?_
  refine j_cV0 (pc' := 4) m_L_9 (p_fingerprint hD hV (by omega) (by omega)) Kd (by decide) rfl rfl rfl ⟨Nat.le_of_ble_eq_true rfl, Nat.le_of_ble_eq_true rfl⟩ ⟨Nat.le_of_ble_eq_true rfl, Nat.le_of_ble_eq_true rfl⟩ (Nat.le_of_ble_eq_true rfl) dL_fails_1 rfl (fun v1 J1 hq => ?_)
  obtain ⟨hx, hI⟩ := hq
  rw [hx, hI]
  show jx_J _ _ _ _ _ _ _ _ _ _ _ _ _ _ _ _ _ _ _ (.long (fpr v k T S N) :: _)
  refine j_lstore_n (pc' := 5) (lv' := [_, _, _, _, _]) dL_fails_4 rfl (by decide) rfl ?_
  refine j_aload_n (pc' := 6) dL_fails_5 rfl rfl ?_
  refine j_sipush (pc' := 9) (v := nI 10001) dL_fails_6 rfl rfl ?_
  refine j_iconst (pc' := 10) (v := nI 1) dL_fails_9 rfl rfl ?_
  refine j_cViR (pc' := 13) m_L_15 (p_adde hD hV (by omega) (by omega) (a := (-20001)) (if_neg (by decide)) (by decide) (if_neg (fun h => absurd h.1 (by decide)))) Kd (by decide) rfl rfl rfl ⟨Nat.le_of_ble_eq_true rfl, Nat.le_of_ble_eq_true rfl⟩ ⟨Nat.le_of_ble_eq_true rfl, Nat.le_of_ble_eq_true rfl⟩ (Nat.le_of_ble_eq_true rfl) dL_fails_10 rfl (fun x1 R1 I1 hq => ?_)
  obtain ⟨hx, hD⟩ := hq
  rw [hx]
  refine j_sipush (pc' := 16) (v := (-20001)) dL_fails_13 rfl rfl ?_
  refine j_icmpF_ne (pc' := 19) (tgt := 219) (by decide) dL_fails_16 (by decide) rfl ?_
  refine j_aload_n (pc' := 20) dL_fails_19 rfl rfl ?_
  refine j_iconst (pc' := 21) (v := nI 0) dL_fails_20 rfl rfl ?_
  refine j_iconst (pc' := 22) (v := nI 0) dL_fails_21 rfl rfl ?_
  refine j_cViR (pc' := 25) m_L_15 (p_adde hD hV (by omega) (by omega) (a := (-20001)) (if_neg (by decide)) (by decide) (if_neg (fun h => absurd h.1 (by decide)))) Kd (by decide) rfl rfl rfl ⟨Nat.le_of_ble_eq_true rfl, Nat.le_of_ble_eq_true rfl⟩ ⟨Nat.le_of_ble_eq_true rfl, Nat.le_of_ble_eq_true rfl⟩ (Nat.le_of_ble_eq_true rfl) dL_fails_22 rfl (fun x1 R1 I1 hq => ?_)
  obtain ⟨hx, hD⟩ := hq
  rw [hx]
  refine j_sipush (pc' := 28) (v := (-20001)) dL_fails_25 rfl rfl ?_
  refine j_icmpF_ne (pc' := 31) (tgt := 219) (by decide) dL_fails_28 (by decide) rfl ?_
  refine j_aload_n (pc' := 32) dL_fails_31 rfl rfl ?_
  refine j_iconst (pc' := 33) (v := nI 0) dL_fails_32 rfl rfl ?_
  refine j_iconst (pc' := 34) (v := nI 5) dL_fails_33 rfl rfl ?_
  refine j_cViR (pc' := 37) m_L_15 (p_adde hD hV (by omega) (by omega) (a := (-20001)) (if_neg (by decide)) (by decide) (if_neg (fun h => absurd h.1 (by decide)))) Kd (by decide) rfl rfl rfl ⟨Nat.le_of_ble_eq_true rfl, Nat.le_of_ble_eq_true rfl⟩ ⟨Nat.le_of_ble_eq_true rfl, Nat.le_of_ble_eq_true rfl⟩ (Nat.le_of_ble_eq_true rfl) dL_fails_34 rfl (fun x1 R1 I1 hq => ?_)
  obtain ⟨hx, hD⟩ := hq
  rw [hx]
  refine j_sipush (pc' := 40) (v := (-20001)) dL_fails_37 rfl rfl ?_
  refine j_icmpF_ne (pc' := 43) (tgt := 219) (by decide) dL_fails_40 (by decide) rfl ?_
  refine j_aload_n (pc' := 44) dL_fails_43 rfl rfl ?_
  refine j_iload_n (pc' := 45) dL_fails_44 rfl rfl ?_
  refine j_iconst (pc' := 46) (v := nI 0) dL_fails_45 rfl rfl ?_
  refine j_iconst (pc' := 47) (v := nI 0) dL_fails_46 rfl rfl ?_
  refine j_cViR (pc' := 50) m_L_21 (p_sete hD hV (by omega) (by omega) (a := (-20001)) (if_neg (fun h => absurd h.1 (okP_no hV.z h16))) (by decide) (if_neg (fun h => absurd h.1 (okP_no hV.z h16)))) Kd (by decide) rfl rfl rfl ⟨Nat.le_of_ble_eq_true rfl, Nat.le_of_ble_eq_true rfl⟩ ⟨Nat.le_of_ble_eq_true rfl, Nat.le_of_ble_eq_true rfl⟩ (Nat.le_of_ble_eq_true rfl) dL_fails_47 rfl (fun x1 R1 I1 hq => ?_)
  obtain ⟨hx, hD⟩ := hq
  rw [hx]
  refine j_sipush (pc' := 53) (v := (-20001)) dL_fails_50 rfl rfl ?_
  refine j_icmpF_ne (pc' := 56) (tgt := 219) (by decide) dL_fails_53 (by decide) rfl ?_
  refine j_aload_n (pc' := 57) dL_fails_56 rfl rfl ?_
  refine j_iconst (pc' := 58) (v := nI 0) dL_fails_57 rfl rfl ?_
  refine j_bipush (pc' := 60) (v := nI 7) dL_fails_58 rfl rfl ?_
  refine j_iconst (pc' := 61) (v := nI 0) dL_fails_60 rfl rfl ?_
  refine j_cViR (pc' := 64) m_L_21 (p_sete hD hV (by omega) (by omega) (a := (-20001)) (if_neg (fun h => absurd h.2 (by decide))) (by decide) (if_neg (fun h => absurd h.2 (by decide)))) Kd (by decide) rfl rfl rfl ⟨Nat.le_of_ble_eq_true rfl, Nat.le_of_ble_eq_true rfl⟩ ⟨Nat.le_of_ble_eq_true rfl, Nat.le_of_ble_eq_true rfl⟩ (Nat.le_of_ble_eq_true rfl) dL_fails_61 rfl (fun x1 R1 I1 hq => ?_)
  obtain ⟨hx, hD⟩ := hq
  rw [hx]
  refine j_sipush (pc' := 67) (v := (-20001)) dL_fails_64 rfl rfl ?_
  refine j_icmpF_ne (pc' := 70) (tgt := 219) (by decide) dL_fails_67 (by decide) rfl ?_
  refine j_aload_n (pc' := 71) dL_fails_70 rfl rfl ?_
  refine j_iconst (pc' := 72) (v := nI 0) dL_fails_71 rfl rfl ?_
  refine j_iconst (pc' := 73) (v := nI 0) dL_fails_72 rfl rfl ?_
  refine j_iconst (pc' := 74) (v := nI 2) dL_fails_73 rfl rfl ?_
  refine j_cViR (pc' := 77) m_L_21 (p_sete hD hV (by omega) (by omega) (a := (-20001)) (if_neg (fun h => absurd h.2 (by decide))) (by decide) (if_neg (fun h => absurd h.2 (by decide)))) Kd (by decide) rfl rfl rfl ⟨Nat.le_of_ble_eq_true rfl, Nat.le_of_ble_eq_true rfl⟩ ⟨Nat.le_of_ble_eq_true rfl, Nat.le_of_ble_eq_true rfl⟩ (Nat.le_of_ble_eq_true rfl) dL_fails_74 rfl (fun x1 R1 I1 hq => ?_)
  obtain ⟨hx, hD⟩ := hq
  rw [hx]
  refine j_sipush (pc' := 80) (v := (-20001)) dL_fails_77 rfl rfl ?_
  refine j_icmpF_ne (pc' := 83) (tgt := 219) (by decide) dL_fails_80 (by decide) rfl ?_
  refine j_aload_n (pc' := 84) dL_fails_83 rfl rfl ?_
  refine j_iconst (pc' := 85) (v := nI 0) dL_fails_84 rfl rfl ?_
  refine j_iconst (pc' := 86) (v := nI 2) dL_fails_85 rfl rfl ?_
  refine j_sipush (pc' := 89) (v := nI 1001) dL_fails_86 rfl rfl ?_
  refine j_cViR (pc' := 92) m_L_21 (p_sete hD hV (by omega) (by omega) (a := (-20001)) (if_neg (fun h => absurd h.2 (by decide))) (by decide) (if_neg (fun h => absurd h.2 (by decide)))) Kd (by decide) rfl rfl rfl ⟨Nat.le_of_ble_eq_true rfl, Nat.le_of_ble_eq_true rfl⟩ ⟨Nat.le_of_ble_eq_true rfl, Nat.le_of_ble_eq_true rfl⟩ (Nat.le_of_ble_eq_true rfl) dL_fails_89 rfl (fun x1 R1 I1 hq => ?_)
  obtain ⟨hx, hD⟩ := hq
  rw [hx]
  refine j_sipush (pc' := 95) (v := (-20001)) dL_fails_92 rfl rfl ?_
  refine j_icmpF_ne (pc' := 98) (tgt := 219) (by decide) dL_fails_95 (by decide) rfl ?_
  refine j_aload_n (pc' := 99) dL_fails_98 rfl rfl ?_
  refine j_iconst (pc' := 100) (v := nI 0) dL_fails_99 rfl rfl ?_
  refine j_iconst (pc' := 101) (v := nI 3) dL_fails_100 rfl rfl ?_
  refine j_bipush (pc' := 103) (v := nI 21) dL_fails_101 rfl rfl ?_
  refine j_cViR (pc' := 106) m_L_21 (p_sete hD hV (by omega) (by omega) (a := (-20001)) (if_neg (fun h => absurd h.2 (by decide))) (by decide) (if_neg (fun h => absurd h.2 (by decide)))) Kd (by decide) rfl rfl rfl ⟨Nat.le_of_ble_eq_true rfl, Nat.le_of_ble_eq_true rfl⟩ ⟨Nat.le_of_ble_eq_true rfl, Nat.le_of_ble_eq_true rfl⟩ (Nat.le_of_ble_eq_true rfl) dL_fails_103 rfl (fun x1 R1 I1 hq => ?_)
  obtain ⟨hx, hD⟩ := hq
  rw [hx]
  refine j_sipush (pc' := 109) (v := (-20001)) dL_fails_106 rfl rfl ?_
  refine j_icmpF_ne (pc' := 112) (tgt := 219) (by decide) dL_fails_109 (by decide) rfl ?_
  refine j_aload_n (pc' := 113) dL_fails_112 rfl rfl ?_
  refine j_iconst (pc' := 114) (v := nI 0) dL_fails_113 rfl rfl ?_
  refine j_iconst (pc' := 115) (v := nI 5) dL_fails_114 rfl rfl ?_
  refine j_iconst (pc' := 116) (v := nI 5) dL_fails_115 rfl rfl ?_
  refine j_cViR (pc' := 119) m_L_21 (p_sete hD hV (by omega) (by omega) (a := (-20001)) (if_neg (fun h => absurd h.2 (by decide))) (by decide) (if_neg (fun h => absurd h.2 (by decide)))) Kd (by decide) rfl rfl rfl ⟨Nat.le_of_ble_eq_true rfl, Nat.le_of_ble_eq_true rfl⟩ ⟨Nat.le_of_ble_eq_true rfl, Nat.le_of_ble_eq_true rfl⟩ (Nat.le_of_ble_eq_true rfl) dL_fails_116 rfl (fun x1 R1 I1 hq => ?_)
  obtain ⟨hx, hD⟩ := hq
  rw [hx]
  refine j_sipush (pc' := 122) (v := (-20001)) dL_fails_119 rfl rfl ?_
  refine j_icmpF_ne (pc' := 125) (tgt := 219) (by decide) dL_fails_122 (by decide) rfl ?_
  refine j_aload_n (pc' := 126) dL_fails_125 rfl rfl ?_
  refine j_iconst (pc' := 127) (v := nI 0) dL_fails_126 rfl rfl ?_
  refine j_bipush (pc' := 129) (v := nI 6) dL_fails_127 rfl rfl ?_
  refine j_bipush (pc' := 131) (v := nI 16) dL_fails_129 rfl rfl ?_
  refine j_cViR (pc' := 134) m_L_21 (p_sete hD hV (by omega) (by omega) (a := (-20001)) (if_neg (fun h => absurd h.2 (by decide))) (by decide) (if_neg (fun h => absurd h.2 (by decide)))) Kd (by decide) rfl rfl rfl ⟨Nat.le_of_ble_eq_true rfl, Nat.le_of_ble_eq_true rfl⟩ ⟨Nat.le_of_ble_eq_true rfl, Nat.le_of_ble_eq_true rfl⟩ (Nat.le_of_ble_eq_true rfl) dL_fails_131 rfl (fun x1 R1 I1 hq => ?_)
  obtain ⟨hx, hD⟩ := hq
  rw [hx]
  refine j_sipush (pc' := 137) (v := (-20001)) dL_fails_134 rfl rfl ?_
  refine j_icmpF_ne (pc' := 140) (tgt := 219) (by decide) dL_fails_137 (by decide) rfl ?_
  refine j_aload_n (pc' := 141) dL_fails_140 rfl rfl ?_
  refine j_iload_n (pc' := 142) dL_fails_141 rfl rfl ?_
  refine j_iconst (pc' := 143) (v := nI 0) dL_fails_142 rfl rfl ?_
  refine j_cViR (pc' := 146) m_L_25 (p_setRoote hD hV (by omega) (by omega) (a := (-20001)) (if_neg (fun h => absurd h.1 (okP_no hV.z h16))) (by decide) (if_neg (fun h => absurd h.1.1 (okP_no hV.z h16)))) Kd (by decide) rfl rfl rfl ⟨Nat.le_of_ble_eq_true rfl, Nat.le_of_ble_eq_true rfl⟩ ⟨Nat.le_of_ble_eq_true rfl, Nat.le_of_ble_eq_true rfl⟩ (Nat.le_of_ble_eq_true rfl) dL_fails_143 rfl (fun x1 R1 I1 hq => ?_)
  obtain ⟨hx, hD⟩ := hq
  rw [hx]
  refine j_sipush (pc' := 149) (v := (-20001)) dL_fails_146 rfl rfl ?_
  refine j_icmpF_ne (pc' := 152) (tgt := 219) (by decide) dL_fails_149 (by decide) rfl ?_
  refine j_aload_n (pc' := 153) dL_fails_152 rfl rfl ?_
  refine j_iconst (pc' := 154) (v := nI 0) dL_fails_153 rfl rfl ?_
  refine j_iload_n (pc' := 155) dL_fails_154 rfl rfl ?_
  refine j_cViR (pc' := 158) m_L_25 (p_setRoote hD hV (by omega) (by omega) (a := (-20001)) (if_neg (fun h => h.2.elim (fun z => absurd z hn1) (fun z => absurd z (okP_no hV.z h16)))) (by decide) (if_neg (fun h => h.1.2.elim (fun z => absurd z hn1) (fun z => absurd z (okP_no hV.z h16))))) Kd (by decide) rfl rfl rfl ⟨Nat.le_of_ble_eq_true rfl, Nat.le_of_ble_eq_true rfl⟩ ⟨Nat.le_of_ble_eq_true rfl, Nat.le_of_ble_eq_true rfl⟩ (Nat.le_of_ble_eq_true rfl) dL_fails_155 rfl (fun x1 R1 I1 hq => ?_)
  obtain ⟨hx, hD⟩ := hq
  rw [hx]
  refine j_sipush (pc' := 161) (v := (-20001)) dL_fails_158 rfl rfl ?_
  refine j_icmpF_ne (pc' := 164) (tgt := 219) (by decide) dL_fails_161 (by decide) rfl ?_
  refine j_aload_n (pc' := 165) dL_fails_164 rfl rfl ?_
  refine j_iconst (pc' := 166) (v := nI 0) dL_fails_165 rfl rfl ?_
  refine j_bipush (pc' := 168) (v := (-2)) dL_fails_166 rfl rfl ?_
  refine j_cViR (pc' := 171) m_L_25 (p_setRoote hD hV (by omega) (by omega) (a := (-20001)) (if_neg (fun h => h.2.elim (fun z => absurd z (by decide)) (fun z => absurd z (okP_ng hV.z h16 (by decide))))) (by decide) (if_neg (fun h => h.1.2.elim (fun z => absurd z (by decide)) (fun z => absurd z (okP_ng hV.z h16 (by decide)))))) Kd (by decide) rfl rfl rfl ⟨Nat.le_of_ble_eq_true rfl, Nat.le_of_ble_eq_true rfl⟩ ⟨Nat.le_of_ble_eq_true rfl, Nat.le_of_ble_eq_true rfl⟩ (Nat.le_of_ble_eq_true rfl) dL_fails_168 rfl (fun x1 R1 I1 hq => ?_)
  obtain ⟨hx, hD⟩ := hq
  rw [hx]
  refine j_sipush (pc' := 174) (v := (-20001)) dL_fails_171 rfl rfl ?_
  refine j_icmpF_ne (pc' := 177) (tgt := 219) (by decide) dL_fails_174 (by decide) rfl ?_
  refine j_aload_n (pc' := 178) dL_fails_177 rfl rfl ?_
  refine j_iconst (pc' := 179) (v := nI 0) dL_fails_178 rfl rfl ?_
  refine j_iconst (pc' := 180) (v := nI 0) dL_fails_179 rfl rfl ?_
  refine j_cViR (pc' := 183) m_L_25 (p_setRoote hD hV (by omega) (by omega) (a := (-20002)) ((if_pos ⟨ok0, Or.inr ok0⟩).trans (if_pos (climb_e (by decide)))) (by decide) (if_neg (fun h => h.2 (climb_e (by decide))))) Kd (by decide) rfl rfl rfl ⟨Nat.le_of_ble_eq_true rfl, Nat.le_of_ble_eq_true rfl⟩ ⟨Nat.le_of_ble_eq_true rfl, Nat.le_of_ble_eq_true rfl⟩ (Nat.le_of_ble_eq_true rfl) dL_fails_180 rfl (fun x1 R1 I1 hq => ?_)
  obtain ⟨hx, hD⟩ := hq
  rw [hx]
  refine j_sipush (pc' := 186) (v := (-20002)) dL_fails_183 rfl rfl ?_
  refine j_icmpF_ne (pc' := 189) (tgt := 219) (by decide) dL_fails_186 (by decide) rfl ?_
  refine j_aload_n (pc' := 190) dL_fails_189 rfl rfl ?_
  refine j_iload_n (pc' := 191) dL_fails_190 rfl rfl ?_
  refine j_iconst (pc' := 192) (v := nI 0) dL_fails_191 rfl rfl ?_
  refine j_cViR (pc' := 195) m_L_28 (p_setValuee hD hV (by omega) (by omega) (a := (-20001)) (congrArg Prod.fst (fVal_n (okP_no hV.z h16))) (by decide) (congrArg Prod.snd (fVal_n (okP_no hV.z h16)))) Kd (by decide) rfl rfl rfl ⟨Nat.le_of_ble_eq_true rfl, Nat.le_of_ble_eq_true rfl⟩ ⟨Nat.le_of_ble_eq_true rfl, Nat.le_of_ble_eq_true rfl⟩ (Nat.le_of_ble_eq_true rfl) dL_fails_192 rfl (fun x1 R1 I1 hq => ?_)
  obtain ⟨hx, hD⟩ := hq
  rw [hx]
  refine j_sipush (pc' := 198) (v := (-20001)) dL_fails_195 rfl rfl ?_
  refine j_icmpF_ne (pc' := 201) (tgt := 219) (by decide) dL_fails_198 (by decide) rfl ?_
  refine j_aload_n (pc' := 202) dL_fails_201 rfl rfl ?_
  refine j_iconst (pc' := 203) (v := nI 0) dL_fails_202 rfl rfl ?_
  refine j_sipush (pc' := 206) (v := (-10001)) dL_fails_203 rfl rfl ?_
  refine j_cViR (pc' := 209) m_L_28 (p_setValuee hD hV (by omega) (by omega) (a := (-20001)) (congrArg Prod.fst (fVal_y (by decide))) (by decide) (congrArg Prod.snd (fVal_y (by decide)))) Kd (by decide) rfl rfl rfl ⟨Nat.le_of_ble_eq_true rfl, Nat.le_of_ble_eq_true rfl⟩ ⟨Nat.le_of_ble_eq_true rfl, Nat.le_of_ble_eq_true rfl⟩ (Nat.le_of_ble_eq_true rfl) dL_fails_206 rfl (fun x1 R1 I1 hq => ?_)
  obtain ⟨hx, hD⟩ := hq
  rw [hx]
  refine j_sipush (pc' := 212) (v := (-20001)) dL_fails_209 rfl rfl ?_
  refine j_icmpF_ne (pc' := 215) (tgt := 219) (by decide) dL_fails_212 (by decide) rfl ?_
  refine j_iconst (pc' := 216) (v := nI 1) dL_fails_215 rfl rfl ?_
  refine j_goto (tgt := 220) dL_fails_216 (by decide) ?_
  refine j_istore (pc' := 222) (lv' := [_, _, _, _, _]) dL_fails_220 rfl (by decide) rfl ?_
  refine j_iload (pc' := 224) dL_fails_222 rfl rfl ?_
  refine j_ifF_eq (pc' := 227) (tgt := 402) (by decide) dL_fails_224 (by decide) rfl ?_
  refine j_aload_n (pc' := 228) dL_fails_227 rfl rfl ?_
  refine j_iload_n (pc' := 229) dL_fails_228 rfl rfl ?_
  refine j_iconst (pc' := 230) (v := nI 0) dL_fails_229 rfl rfl ?_
  refine j_cVi (pc' := 233) m_L_31 (p_point hD hV (by omega) (by omega) (a := (-20001)) (fPt_n (okP_no hV.z h16))) Kd (by decide) rfl rfl rfl ⟨Nat.le_of_ble_eq_true rfl, Nat.le_of_ble_eq_true rfl⟩ ⟨Nat.le_of_ble_eq_true rfl, Nat.le_of_ble_eq_true rfl⟩ (Nat.le_of_ble_eq_true rfl) dL_fails_230 rfl (fun x1 J1 hq => ?_)
  obtain ⟨hx, hI⟩ := hq
  rw [hx, hI]
  refine j_sipush (pc' := 236) (v := (-20001)) dL_fails_233 rfl rfl ?_
  refine j_icmpF_ne (pc' := 239) (tgt := 402) (by decide) dL_fails_236 (by decide) rfl ?_
  refine j_aload_n (pc' := 240) dL_fails_239 rfl rfl ?_
  refine j_iconst (pc' := 241) (v := nI 0) dL_fails_240 rfl rfl ?_
  refine j_bipush (pc' := 243) (v := nI 16) dL_fails_241 rfl rfl ?_
  refine j_cVi (pc' := 246) m_L_31 (p_point hD hV (by omega) (by omega) (a := (-20001)) (fPt_y (by decide))) Kd (by decide) rfl rfl rfl ⟨Nat.le_of_ble_eq_true rfl, Nat.le_of_ble_eq_true rfl⟩ ⟨Nat.le_of_ble_eq_true rfl, Nat.le_of_ble_eq_true rfl⟩ (Nat.le_of_ble_eq_true rfl) dL_fails_243 rfl (fun x1 J1 hq => ?_)
  obtain ⟨hx, hI⟩ := hq
  rw [hx, hI]
  refine j_sipush (pc' := 249) (v := (-20001)) dL_fails_246 rfl rfl ?_
  refine j_icmpF_ne (pc' := 252) (tgt := 402) (by decide) dL_fails_249 (by decide) rfl ?_
  refine j_aload_n (pc' := 253) dL_fails_252 rfl rfl ?_
  refine j_iconst (pc' := 254) (v := nI 4) dL_fails_253 rfl rfl ?_
  refine j_cViR (pc' := 257) m_L_34 (p_setStatee hD hV (by omega) (by omega) (a := (-20001)) (congrArg Prod.fst (fMod_n (by decide))) (by decide) (congrArg Prod.snd (fMod_n (by decide)))) Kd (by decide) rfl rfl rfl ⟨Nat.le_of_ble_eq_true rfl, Nat.le_of_ble_eq_true rfl⟩ ⟨Nat.le_of_ble_eq_true rfl, Nat.le_of_ble_eq_true rfl⟩ (Nat.le_of_ble_eq_true rfl) dL_fails_254 rfl (fun x1 R1 I1 hq => ?_)
  obtain ⟨hx, hD⟩ := hq
  rw [hx]
  refine j_sipush (pc' := 260) (v := (-20001)) dL_fails_257 rfl rfl ?_
  refine j_icmpF_ne (pc' := 263) (tgt := 402) (by decide) dL_fails_260 (by decide) rfl ?_
  refine j_aload_n (pc' := 264) dL_fails_263 rfl rfl ?_
  refine j_iconst (pc' := 265) (v := nI 0) dL_fails_264 rfl rfl ?_
  refine j_iconst (pc' := 266) (v := nI 1) dL_fails_265 rfl rfl ?_
  refine j_iconst (pc' := 267) (v := nI 1) dL_fails_266 rfl rfl ?_
  refine j_cViR (pc' := 270) m_L_38 (p_setFloode hD hV (by omega) (by omega) (a := (-20001)) (if_neg (by decide)) (by decide) (if_neg (by decide))) Kd (by decide) rfl rfl rfl ⟨Nat.le_of_ble_eq_true rfl, Nat.le_of_ble_eq_true rfl⟩ ⟨Nat.le_of_ble_eq_true rfl, Nat.le_of_ble_eq_true rfl⟩ (Nat.le_of_ble_eq_true rfl) dL_fails_267 rfl (fun x1 R1 I1 hq => ?_)
  obtain ⟨hx, hD⟩ := hq
  rw [hx]
  refine j_sipush (pc' := 273) (v := (-20001)) dL_fails_270 rfl rfl ?_
  refine j_icmpF_ne (pc' := 276) (tgt := 402) (by decide) dL_fails_273 (by decide) rfl ?_
  refine j_aload_n (pc' := 277) dL_fails_276 rfl rfl ?_
  refine j_iconst (pc' := 278) (v := nI 1) dL_fails_277 rfl rfl ?_
  refine j_bipush (pc' := 280) (v := nI 51) dL_fails_278 rfl rfl ?_
  refine j_iconst (pc' := 281) (v := nI 1) dL_fails_280 rfl rfl ?_
  refine j_cViR (pc' := 284) m_L_38 (p_setFloode hD hV (by omega) (by omega) (a := (-20001)) (if_neg (by decide)) (by decide) (if_neg (by decide))) Kd (by decide) rfl rfl rfl ⟨Nat.le_of_ble_eq_true rfl, Nat.le_of_ble_eq_true rfl⟩ ⟨Nat.le_of_ble_eq_true rfl, Nat.le_of_ble_eq_true rfl⟩ (Nat.le_of_ble_eq_true rfl) dL_fails_281 rfl (fun x1 R1 I1 hq => ?_)
  obtain ⟨hx, hD⟩ := hq
  rw [hx]
  refine j_sipush (pc' := 287) (v := (-20001)) dL_fails_284 rfl rfl ?_
  refine j_icmpF_ne (pc' := 290) (tgt := 402) (by decide) dL_fails_287 (by decide) rfl ?_
  refine j_aload_n (pc' := 291) dL_fails_290 rfl rfl ?_
  refine j_iconst (pc' := 292) (v := nI 1) dL_fails_291 rfl rfl ?_
  refine j_iconst (pc' := 293) (v := nI 5) dL_fails_292 rfl rfl ?_
  refine j_bipush (pc' := 295) (v := nI 6) dL_fails_293 rfl rfl ?_
  refine j_cViR (pc' := 298) m_L_38 (p_setFloode hD hV (by omega) (by omega) (a := (-20001)) (if_neg (by decide)) (by decide) (if_neg (by decide))) Kd (by decide) rfl rfl rfl ⟨Nat.le_of_ble_eq_true rfl, Nat.le_of_ble_eq_true rfl⟩ ⟨Nat.le_of_ble_eq_true rfl, Nat.le_of_ble_eq_true rfl⟩ (Nat.le_of_ble_eq_true rfl) dL_fails_295 rfl (fun x1 R1 I1 hq => ?_)
  obtain ⟨hx, hD⟩ := hq
  rw [hx]
  refine j_sipush (pc' := 301) (v := (-20001)) dL_fails_298 rfl rfl ?_
  refine j_icmpF_ne (pc' := 304) (tgt := 402) (by decide) dL_fails_301 (by decide) rfl ?_
  refine j_aload_n (pc' := 305) dL_fails_304 rfl rfl ?_
  refine j_iconst (pc' := 306) (v := nI 0) dL_fails_305 rfl rfl ?_
  refine j_cViR (pc' := 309) m_L_41 (p_ticke hD hV (by omega) (by omega) (a := (-20001)) (congrArg Prod.fst (fTks_n (by decide))) (by decide) (congrArg Prod.snd (fTks_n (by decide)))) Kd (by decide) rfl rfl rfl ⟨Nat.le_of_ble_eq_true rfl, Nat.le_of_ble_eq_true rfl⟩ ⟨Nat.le_of_ble_eq_true rfl, Nat.le_of_ble_eq_true rfl⟩ (Nat.le_of_ble_eq_true rfl) dL_fails_306 rfl (fun x1 R1 I1 hq => ?_)
  obtain ⟨hx, hD⟩ := hq
  rw [hx]
  refine j_sipush (pc' := 312) (v := (-20001)) dL_fails_309 rfl rfl ?_
  refine j_icmpF_ne (pc' := 315) (tgt := 402) (by decide) dL_fails_312 (by decide) rfl ?_
  refine j_aload_n (pc' := 316) dL_fails_315 rfl rfl ?_
  refine j_bipush (pc' := 318) (v := nI 101) dL_fails_316 rfl rfl ?_
  refine j_cViR (pc' := 321) m_L_41 (p_ticke hD hV (by omega) (by omega) (a := (-20001)) (congrArg Prod.fst (fTks_n (by decide))) (by decide) (congrArg Prod.snd (fTks_n (by decide)))) Kd (by decide) rfl rfl rfl ⟨Nat.le_of_ble_eq_true rfl, Nat.le_of_ble_eq_true rfl⟩ ⟨Nat.le_of_ble_eq_true rfl, Nat.le_of_ble_eq_true rfl⟩ (Nat.le_of_ble_eq_true rfl) dL_fails_318 rfl (fun x1 R1 I1 hq => ?_)
  obtain ⟨hx, hD⟩ := hq
  rw [hx]
  refine j_sipush (pc' := 324) (v := (-20001)) dL_fails_321 rfl rfl ?_
  refine j_icmpF_ne (pc' := 327) (tgt := 402) (by decide) dL_fails_324 (by decide) rfl ?_
  refine j_aload_n (pc' := 328) dL_fails_327 rfl rfl ?_
  refine j_iconst (pc' := 329) (v := nI 5) dL_fails_328 rfl rfl ?_
  refine j_cVi (pc' := 332) m_L_44 (p_plant hD hV (by omega) (by omega) (a := (-20001)) (fPl_n (by decide))) Kd (by decide) rfl rfl rfl ⟨Nat.le_of_ble_eq_true rfl, Nat.le_of_ble_eq_true rfl⟩ ⟨Nat.le_of_ble_eq_true rfl, Nat.le_of_ble_eq_true rfl⟩ (Nat.le_of_ble_eq_true rfl) dL_fails_329 rfl (fun x1 J1 hq => ?_)
  obtain ⟨hx, hI⟩ := hq
  rw [hx, hI]
  refine j_sipush (pc' := 335) (v := (-20001)) dL_fails_332 rfl rfl ?_
  refine j_icmpF_ne (pc' := 338) (tgt := 402) (by decide) dL_fails_335 (by decide) rfl ?_
  refine j_aload_n (pc' := 339) dL_fails_338 rfl rfl ?_
  refine j_iload_n (pc' := 340) dL_fails_339 rfl rfl ?_
  refine j_cViR (pc' := 343) m_L_47 (p_acke hD hV (by omega) (by omega) (a := (-20001)) (congrArg Prod.fst (fAck_n (okP_no hV.z h16))) (by decide) (congrArg Prod.snd (fAck_n (okP_no hV.z h16)))) Kd (by decide) rfl rfl rfl ⟨Nat.le_of_ble_eq_true rfl, Nat.le_of_ble_eq_true rfl⟩ ⟨Nat.le_of_ble_eq_true rfl, Nat.le_of_ble_eq_true rfl⟩ (Nat.le_of_ble_eq_true rfl) dL_fails_340 rfl (fun x1 R1 I1 hq => ?_)
  obtain ⟨hx, hD⟩ := hq
  rw [hx]
  refine j_sipush (pc' := 346) (v := (-20001)) dL_fails_343 rfl rfl ?_
  refine j_icmpF_ne (pc' := 349) (tgt := 402) (by decide) dL_fails_346 (by decide) rfl ?_
  refine j_aload_n (pc' := 350) dL_fails_349 rfl rfl ?_
  refine j_iload_n (pc' := 351) dL_fails_350 rfl rfl ?_
  refine j_iconst (pc' := 352) (v := nI 1) dL_fails_351 rfl rfl ?_
  refine j_cViR (pc' := 355) m_L_50 (p_shelvee hD hV (by omega) (by omega) (a := (-20001)) (congrArg Prod.fst (fShv_n (okP_no hV.z h16))) (by decide) (congrArg Prod.snd (fShv_n (okP_no hV.z h16)))) Kd (by decide) rfl rfl rfl ⟨Nat.le_of_ble_eq_true rfl, Nat.le_of_ble_eq_true rfl⟩ ⟨Nat.le_of_ble_eq_true rfl, Nat.le_of_ble_eq_true rfl⟩ (Nat.le_of_ble_eq_true rfl) dL_fails_352 rfl (fun x1 R1 I1 hq => ?_)
  obtain ⟨hx, hD⟩ := hq
  rw [hx]
  refine j_sipush (pc' := 358) (v := (-20001)) dL_fails_355 rfl rfl ?_
  refine j_icmpF_ne (pc' := 361) (tgt := 402) (by decide) dL_fails_358 (by decide) rfl ?_
  refine j_aload_n (pc' := 362) dL_fails_361 rfl rfl ?_
  refine j_iconst (pc' := 363) (v := nI 0) dL_fails_362 rfl rfl ?_
  refine j_iconst (pc' := 364) (v := nI 0) dL_fails_363 rfl rfl ?_
  refine j_cViR (pc' := 367) m_L_50 (p_shelvee hD hV (by omega) (by omega) (a := (-20001)) (congrArg Prod.fst (fShv_t (by decide))) (by decide) (congrArg Prod.snd (fShv_t (by decide)))) Kd (by decide) rfl rfl rfl ⟨Nat.le_of_ble_eq_true rfl, Nat.le_of_ble_eq_true rfl⟩ ⟨Nat.le_of_ble_eq_true rfl, Nat.le_of_ble_eq_true rfl⟩ (Nat.le_of_ble_eq_true rfl) dL_fails_364 rfl (fun x1 R1 I1 hq => ?_)
  obtain ⟨hx, hD⟩ := hq
  rw [hx]
  refine j_sipush (pc' := 370) (v := (-20001)) dL_fails_367 rfl rfl ?_
  refine j_icmpF_ne (pc' := 373) (tgt := 402) (by decide) dL_fails_370 (by decide) rfl ?_
  refine j_aload_n (pc' := 374) dL_fails_373 rfl rfl ?_
  refine j_iconst (pc' := 375) (v := nI 0) dL_fails_374 rfl rfl ?_
  refine j_sipush (pc' := 378) (v := nI 1001) dL_fails_375 rfl rfl ?_
  refine j_cViR (pc' := 381) m_L_50 (p_shelvee hD hV (by omega) (by omega) (a := (-20001)) (congrArg Prod.fst (fShv_t (by decide))) (by decide) (congrArg Prod.snd (fShv_t (by decide)))) Kd (by decide) rfl rfl rfl ⟨Nat.le_of_ble_eq_true rfl, Nat.le_of_ble_eq_true rfl⟩ ⟨Nat.le_of_ble_eq_true rfl, Nat.le_of_ble_eq_true rfl⟩ (Nat.le_of_ble_eq_true rfl) dL_fails_378 rfl (fun x1 R1 I1 hq => ?_)
  obtain ⟨hx, hD⟩ := hq
  rw [hx]
  refine j_sipush (pc' := 384) (v := (-20001)) dL_fails_381 rfl rfl ?_
  refine j_icmpF_ne (pc' := 387) (tgt := 402) (by decide) dL_fails_384 (by decide) rfl ?_
  refine j_aload_n (pc' := 388) dL_fails_387 rfl rfl ?_
  refine j_iconst (pc' := 389) (v := (-1)) dL_fails_388 rfl rfl ?_
  refine j_cViR (pc' := 392) m_L_53 (p_unshelvee hD hV (by omega) (by omega) (a := (-20001)) (congrArg Prod.fst (fUns_n (okP_ng hV.z h16 (by decide)))) (by decide) (congrArg Prod.snd (fUns_n (okP_ng hV.z h16 (by decide))))) Kd (by decide) rfl rfl rfl ⟨Nat.le_of_ble_eq_true rfl, Nat.le_of_ble_eq_true rfl⟩ ⟨Nat.le_of_ble_eq_true rfl, Nat.le_of_ble_eq_true rfl⟩ (Nat.le_of_ble_eq_true rfl) dL_fails_389 rfl (fun x1 R1 I1 hq => ?_)
  obtain ⟨hx, hD⟩ := hq
  rw [hx]
  refine j_sipush (pc' := 395) (v := (-20001)) dL_fails_392 rfl rfl ?_
  refine j_icmpF_ne (pc' := 398) (tgt := 402) (by decide) dL_fails_395 (by decide) rfl ?_
  refine j_iconst (pc' := 399) (v := nI 1) dL_fails_398 rfl rfl ?_
  refine j_goto (tgt := 403) dL_fails_399 (by decide) ?_
  refine j_istore (pc' := 405) (lv' := [_, _, _, _, _]) dL_fails_403 rfl (by decide) rfl ?_
  refine j_iload (pc' := 407) dL_fails_405 rfl rfl ?_
  refine j_ifF_eq (pc' := 410) (tgt := 552) (by decide) dL_fails_407 (by decide) rfl ?_
  refine j_aload_n (pc' := 411) dL_fails_410 rfl rfl ?_
  refine j_iconst (pc' := 412) (v := (-1)) dL_fails_411 rfl rfl ?_
  refine j_cVi (pc' := 415) m_L_56 (p_list hD hV (by omega) (by omega) (a := (-20001)) (fLs_n)) Kd (by decide) rfl rfl rfl ⟨Nat.le_of_ble_eq_true rfl, Nat.le_of_ble_eq_true rfl⟩ ⟨Nat.le_of_ble_eq_true rfl, Nat.le_of_ble_eq_true rfl⟩ (Nat.le_of_ble_eq_true rfl) dL_fails_412 rfl (fun x1 I1 hq => ?_)
  obtain ⟨hx, hD⟩ := hq
  rw [hx]
  refine j_sipush (pc' := 418) (v := (-20001)) dL_fails_415 rfl rfl ?_
  refine j_icmpF_ne (pc' := 421) (tgt := 552) (by decide) dL_fails_418 (by decide) rfl ?_
  refine j_aload_n (pc' := 422) dL_fails_421 rfl rfl ?_
  refine j_bipush (pc' := 424) (v := nI 16) dL_fails_422 rfl rfl ?_
  refine j_cVi (pc' := 427) m_L_56 (p_list hD hV (by omega) (by omega) (a := (-20009)) (fLs_o (by omega) (Nat.le_trans (lsF_ok k).1 h16))) Kd (by decide) rfl rfl rfl ⟨Nat.le_of_ble_eq_true rfl, Nat.le_of_ble_eq_true rfl⟩ ⟨Nat.le_of_ble_eq_true rfl, Nat.le_of_ble_eq_true rfl⟩ (Nat.le_of_ble_eq_true rfl) dL_fails_424 rfl (fun x1 I1 hq => ?_)
  obtain ⟨hx, hD⟩ := hq
  rw [hx]
  refine j_sipush (pc' := 430) (v := (-20009)) dL_fails_427 rfl rfl ?_
  refine j_icmpF_ne (pc' := 433) (tgt := 552) (by decide) dL_fails_430 (by decide) rfl ?_
  refine j_aload_n (pc' := 434) dL_fails_433 rfl rfl ?_
  refine j_bipush (pc' := 436) (v := nI 8) dL_fails_434 rfl rfl ?_
  refine j_cVi (pc' := 439) m_L_59 (p_count hD hV (by omega) (by omega) (a := (-20001)) (fCt_n)) Kd (by decide) rfl rfl rfl ⟨Nat.le_of_ble_eq_true rfl, Nat.le_of_ble_eq_true rfl⟩ ⟨Nat.le_of_ble_eq_true rfl, Nat.le_of_ble_eq_true rfl⟩ (Nat.le_of_ble_eq_true rfl) dL_fails_436 rfl (fun x1 J1 hq => ?_)
  obtain ⟨hx, hI⟩ := hq
  rw [hx, hI]
  refine j_sipush (pc' := 442) (v := (-20001)) dL_fails_439 rfl rfl ?_
  refine j_icmpF_ne (pc' := 445) (tgt := 552) (by decide) dL_fails_442 (by decide) rfl ?_
  refine j_aload_n (pc' := 446) dL_fails_445 rfl rfl ?_
  refine j_iconst (pc' := 447) (v := (-1)) dL_fails_446 rfl rfl ?_
  refine j_iconst (pc' := 448) (v := nI 0) dL_fails_447 rfl rfl ?_
  refine j_cVi (pc' := 451) m_L_62 (p_event hD hV (by omega) (by omega) (a := (-20001)) (fEv_n)) Kd (by decide) rfl rfl rfl ⟨Nat.le_of_ble_eq_true rfl, Nat.le_of_ble_eq_true rfl⟩ ⟨Nat.le_of_ble_eq_true rfl, Nat.le_of_ble_eq_true rfl⟩ (Nat.le_of_ble_eq_true rfl) dL_fails_448 rfl (fun x1 J1 hq => ?_)
  obtain ⟨hx, hI⟩ := hq
  rw [hx, hI]
  refine j_sipush (pc' := 454) (v := (-20001)) dL_fails_451 rfl rfl ?_
  refine j_icmpF_ne (pc' := 457) (tgt := 552) (by decide) dL_fails_454 (by decide) rfl ?_
  refine j_aload_n (pc' := 458) dL_fails_457 rfl rfl ?_
  refine j_iconst (pc' := 459) (v := nI 0) dL_fails_458 rfl rfl ?_
  refine j_iconst (pc' := 460) (v := nI 3) dL_fails_459 rfl rfl ?_
  refine j_cVi (pc' := 463) m_L_62 (p_event hD hV (by omega) (by omega) (a := (-20001)) (fEv_3)) Kd (by decide) rfl rfl rfl ⟨Nat.le_of_ble_eq_true rfl, Nat.le_of_ble_eq_true rfl⟩ ⟨Nat.le_of_ble_eq_true rfl, Nat.le_of_ble_eq_true rfl⟩ (Nat.le_of_ble_eq_true rfl) dL_fails_460 rfl (fun x1 J1 hq => ?_)
  obtain ⟨hx, hI⟩ := hq
  rw [hx, hI]
  refine j_sipush (pc' := 466) (v := (-20001)) dL_fails_463 rfl rfl ?_
  refine j_icmpF_ne (pc' := 469) (tgt := 552) (by decide) dL_fails_466 (by decide) rfl ?_
  refine j_aload_n (pc' := 470) dL_fails_469 rfl rfl ?_
  refine j_bipush (pc' := 472) (v := nI 30) dL_fails_470 rfl rfl ?_
  refine j_iconst (pc' := 473) (v := nI 0) dL_fails_472 rfl rfl ?_
  refine j_cVi (pc' := 476) m_L_62 (p_event hD hV (by omega) (by omega) (a := (-20009)) (fEv_30)) Kd (by decide) rfl rfl rfl ⟨Nat.le_of_ble_eq_true rfl, Nat.le_of_ble_eq_true rfl⟩ ⟨Nat.le_of_ble_eq_true rfl, Nat.le_of_ble_eq_true rfl⟩ (Nat.le_of_ble_eq_true rfl) dL_fails_473 rfl (fun x1 J1 hq => ?_)
  obtain ⟨hx, hI⟩ := hq
  rw [hx, hI]
  refine j_sipush (pc' := 479) (v := (-20009)) dL_fails_476 rfl rfl ?_
  refine j_icmpF_ne (pc' := 482) (tgt := 552) (by decide) dL_fails_479 (by decide) rfl ?_
  refine j_aload_n (pc' := 483) dL_fails_482 rfl rfl ?_
  refine j_aload_n (pc' := 484) dL_fails_483 rfl rfl ?_
  refine j_cVi (pc' := 487) m_L_65 (p_events hD hV (by omega) (by omega) (a := nI N) (hV.n)) Kd (by decide) rfl rfl rfl ⟨Nat.le_of_ble_eq_true rfl, Nat.le_of_ble_eq_true rfl⟩ ⟨Nat.le_of_ble_eq_true rfl, Nat.le_of_ble_eq_true rfl⟩ (Nat.le_of_ble_eq_true rfl) dL_fails_484 rfl (fun x1 J1 hq => ?_)
  obtain ⟨hx, hI⟩ := hq
  rw [hx, hI]
  refine j_iconst (pc' := 488) (v := nI 0) dL_fails_487 rfl rfl ?_
  refine j_cVi (pc' := 491) m_L_62 (p_event hD hV (by omega) (by omega) (a := (-20009)) (fEv_N (by omega))) Kd (by decide) rfl rfl rfl ⟨Nat.le_of_ble_eq_true rfl, Nat.le_of_ble_eq_true rfl⟩ ⟨Nat.le_of_ble_eq_true rfl, Nat.le_of_ble_eq_true rfl⟩ (Nat.le_of_ble_eq_true rfl) dL_fails_488 rfl (fun x1 J1 hq => ?_)
  obtain ⟨hx, hI⟩ := hq
  rw [hx, hI]
  refine j_sipush (pc' := 494) (v := (-20009)) dL_fails_491 rfl rfl ?_
  refine j_icmpF_ne (pc' := 497) (tgt := 552) (by decide) dL_fails_494 (by decide) rfl ?_
  refine j_aload_n (pc' := 498) dL_fails_497 rfl rfl ?_
  refine j_iload_n (pc' := 499) dL_fails_498 rfl rfl ?_
  refine j_iconst (pc' := 500) (v := nI 0) dL_fails_499 rfl rfl ?_
  refine j_cVi (pc' := 503) m_L_69 (p_replay hD hV (by omega) (by omega) (a := (-20001)) (fRe_n (okP_no hV.z h16))) Kd (by decide) rfl rfl rfl ⟨Nat.le_of_ble_eq_true rfl, Nat.le_of_ble_eq_true rfl⟩ ⟨Nat.le_of_ble_eq_true rfl, Nat.le_of_ble_eq_true rfl⟩ (Nat.le_of_ble_eq_true rfl) dL_fails_500 rfl (fun x1 J1 hq => ?_)
  obtain ⟨hx, hI⟩ := hq
  rw [hx, hI]
  refine j_sipush (pc' := 506) (v := (-20001)) dL_fails_503 rfl rfl ?_
  refine j_icmpF_ne (pc' := 509) (tgt := 552) (by decide) dL_fails_506 (by decide) rfl ?_
  refine j_aload_n (pc' := 510) dL_fails_509 rfl rfl ?_
  refine j_iconst (pc' := 511) (v := nI 0) dL_fails_510 rfl rfl ?_
  refine j_sipush (pc' := 514) (v := nI 1001) dL_fails_511 rfl rfl ?_
  refine j_cVi (pc' := 517) m_L_69 (p_replay hD hV (by omega) (by omega) (a := (-20001)) (fRe_y (by decide))) Kd (by decide) rfl rfl rfl ⟨Nat.le_of_ble_eq_true rfl, Nat.le_of_ble_eq_true rfl⟩ ⟨Nat.le_of_ble_eq_true rfl, Nat.le_of_ble_eq_true rfl⟩ (Nat.le_of_ble_eq_true rfl) dL_fails_514 rfl (fun x1 J1 hq => ?_)
  obtain ⟨hx, hI⟩ := hq
  rw [hx, hI]
  refine j_sipush (pc' := 520) (v := (-20001)) dL_fails_517 rfl rfl ?_
  refine j_icmpF_ne (pc' := 523) (tgt := 552) (by decide) dL_fails_520 (by decide) rfl ?_
  refine j_aload_n (pc' := 524) dL_fails_523 rfl rfl ?_
  refine j_iconst (pc' := 525) (v := nI 0) dL_fails_524 rfl rfl ?_
  refine j_bipush (pc' := 527) (v := nI 41) dL_fails_525 rfl rfl ?_
  refine j_cVi (pc' := 530) m_L_72 (p_leastDeadband hD hV (by omega) (by omega) (a := (-20001)) (fLe_y (by decide))) Kd (by decide) rfl rfl rfl ⟨Nat.le_of_ble_eq_true rfl, Nat.le_of_ble_eq_true rfl⟩ ⟨Nat.le_of_ble_eq_true rfl, Nat.le_of_ble_eq_true rfl⟩ (Nat.le_of_ble_eq_true rfl) dL_fails_527 rfl (fun x1 J1 hq => ?_)
  obtain ⟨hx, hI⟩ := hq
  rw [hx, hI]
  refine j_sipush (pc' := 533) (v := (-20001)) dL_fails_530 rfl rfl ?_
  refine j_icmpF_ne (pc' := 536) (tgt := 552) (by decide) dL_fails_533 (by decide) rfl ?_
  refine j_aload_n (pc' := 537) dL_fails_536 rfl rfl ?_
  refine j_bipush (pc' := 539) (v := nI 31) dL_fails_537 rfl rfl ?_
  refine j_cVi (pc' := 542) m_L_75 (p_type hD hV (by omega) (by omega)) Kd (by decide) rfl rfl rfl ⟨Nat.le_of_ble_eq_true rfl, Nat.le_of_ble_eq_true rfl⟩ ⟨Nat.le_of_ble_eq_true rfl, Nat.le_of_ble_eq_true rfl⟩ (Nat.le_of_ble_eq_true rfl) dL_fails_539 rfl (fun x1 I1 hq => ?_)
  obtain ⟨hx, hD⟩ := hq
  rw [hx]
  refine j_sipush (pc' := 545) (v := (-20001)) dL_fails_542 rfl rfl ?_
  refine j_icmpF_ne (pc' := 548) (tgt := 552) (by decide) dL_fails_545 (by decide) rfl ?_
  refine j_iconst (pc' := 549) (v := nI 1) dL_fails_548 rfl rfl ?_
  refine j_goto (tgt := 553) dL_fails_549 (by decide) ?_
  refine j_istore (pc' := 555) (lv' := [_, _, _, _, _]) dL_fails_553 rfl (by decide) rfl ?_
  refine j_iload (pc' := 557) dL_fails_555 rfl rfl ?_
  refine j_ifF_eq (pc' := 560) (tgt := 573) (by decide) dL_fails_557 (by decide) rfl ?_
  refine j_aload_n (pc' := 561) dL_fails_560 rfl rfl ?_
  refine j_cV0 (pc' := 564) m_L_9 (p_fingerprint hD hV (by omega) (by omega)) Kd (by decide) rfl rfl rfl ⟨Nat.le_of_ble_eq_true rfl, Nat.le_of_ble_eq_true rfl⟩ ⟨Nat.le_of_ble_eq_true rfl, Nat.le_of_ble_eq_true rfl⟩ (Nat.le_of_ble_eq_true rfl) dL_fails_561 rfl (fun v1 J1 hq => ?_)
  obtain ⟨hx, hI⟩ := hq
  rw [hx, hI]
  show jx_J _ _ _ _ _ _ _ _ _ _ _ _ _ _ _ _ _ _ _ (.long (fpr v k T S N) :: _)
  refine j_lload_n (pc' := 565) dL_fails_564 rfl rfl ?_
  refine j_lcmp (pc' := 566) dL_fails_565 rfl ?_
  rw [lg_self]
  refine j_ifF_ne (pc' := 569) (tgt := 573) (by decide) dL_fails_566 (by decide) rfl ?_
  refine j_iconst (pc' := 570) (v := nI 1) dL_fails_569 rfl rfl ?_
  refine j_goto (tgt := 574) dL_fails_570 (by decide) ?_
  refine j_retiR dL_fails_574 rfl (by first | rfl | exact bi_n _) ?_
  exact ⟨rfl, hD.mono (by omega)⟩
