theorem dM.cgw {I : jx_I} {d : Nat} {P : Nat → Nat} {w u p : Nat → Int32} {q B : Nat} (h : dM I d P w p q B) (e : eqR u w) : dM I d P u p q B := ⟨h.1, h.2.1, h.2.2.1.cg e, h.2.2.2⟩
theorem lg_self {x : Int64} : lg_cmp x x = 0 := by
  unfold lg_cmp
  simp
set_option maxRecDepth 100000 in
set_option maxHeartbeats 4000000 in
theorem st_add {E : jx_E} {l : Launch} {n : Nat} {kd : jx_K} {R : jx_R} {I : jx_I} {d m B i : Nat} {y4 y5 y6 y7 : Option Value} (hdm : d + 344 ≤ m) (hJ : LJ kd R I d m B) (hB : B + 70000 < 2147483000) (hi4 : i + 4 ≤ scL E) (hL5 : scL E ≤ 2048) (k : ∀ (R1 : jx_R) (I1 : jx_I) (z4 z5 z6 z7 : Option Value), LJ kd R1 I1 d m (B + 60000) → jx_J E l cL_law 8 ret RL false room_1 351 13484 jx_QL 351 13484 n kd R1 I1 838 [some (.ref (scA E)), some (.ref d), some (.ref m), some (.int (nI i)), z4, z5, z6, z7] []) : jx_J E l cL_law 8 ret RL false room_1 351 13484 jx_QL 351 13484 n kd R I 156 [some (.ref (scA E)), some (.ref d), some (.ref m), some (.int (nI i)), y4, y5, y6, y7] [] := by
  obtain ⟨P, q, L, hs, hm, hM, hS, h3, h7⟩ := id hJ
  obtain ⟨kk, T, S, N, hA, hV, hN, hX⟩ := hM.2.2.1
  have hc4 := hM.2.1
  have h16 := hV.k16
  obtain ⟨rk, hrk⟩ := hV.r
  have Kd := hs.1
  have Km := hm.1
  refine j_aload_n (pc' := 157) dL_law_156 rfl rfl ?_
  refine j_aload_n (pc' := 158) dL_law_157 rfl rfl ?_
  refine j_iload_n (pc' := 159) dL_law_158 rfl rfl ?_
  refine j_iconst (pc' := 160) (v := nI 1) dL_law_159 rfl rfl ?_
  first | refine j_iaddN' (pc' := 161) (by with_reducible rfl) (by with_reducible rfl) dL_law_160 rfl ?_ | refine j_iadd (pc' := 161) dL_law_160 rfl ?_
  refine j_sld (pc' := 162) rfl (by omega) hL5 dL_law_161 rfl ?_
  refine j_aload_n (pc' := 163) dL_law_162 rfl rfl ?_
  refine j_iload_n (pc' := 164) dL_law_163 rfl rfl ?_
  refine j_iconst (pc' := 165) (v := nI 2) dL_law_164 rfl rfl ?_
  first | refine j_iaddN' (pc' := 166) (by with_reducible rfl) (by with_reducible rfl) dL_law_165 rfl ?_ | refine j_iadd (pc' := 166) dL_law_165 rfl ?_
  refine j_sld (pc' := 167) rfl (by omega) hL5 dL_law_166 rfl ?_
  refine j_cViR (pc' := 170) m_L_13 (c_X5_add hs hM hA hV hN hX (by omega)) (by assumption) (by decide) rfl rfl rfl ⟨Nat.le_of_ble_eq_true rfl, Nat.le_of_ble_eq_true rfl⟩ ⟨Nat.le_of_ble_eq_true rfl, Nat.le_of_ble_eq_true rfl⟩ (Nat.le_of_ble_eq_true rfl) dL_law_167 rfl (fun x1 R1 I1 hq => ?_)
  obtain ⟨rfl, P1, g1, g2, g3, g4, g5⟩ := hq
  have em : ∀ z, m ≤ z → I1 z = I z := fun z hz => g2 z (by omega) (by omega) (by omega)
  refine j_eqI (mI_at em) ?_
  have hm1 := hm.cg g3 hdm
  have hS1 := hS.fr (fun z a b => g2 z (by omega) (by omega) (by omega))
  refine j_aload_n (pc' := 171) dL_law_170 rfl rfl ?_
  refine j_aload_n (pc' := 172) dL_law_171 rfl rfl ?_
  refine j_iload_n (pc' := 173) dL_law_172 rfl rfl ?_
  refine j_iconst (pc' := 174) (v := nI 1) dL_law_173 rfl rfl ?_
  first | refine j_iaddN' (pc' := 175) (by with_reducible rfl) (by with_reducible rfl) dL_law_174 rfl ?_ | refine j_iadd (pc' := 175) dL_law_174 rfl ?_
  refine j_sld (pc' := 176) rfl (by omega) hL5 dL_law_175 rfl ?_
  refine j_aload_n (pc' := 177) dL_law_176 rfl rfl ?_
  refine j_iload_n (pc' := 178) dL_law_177 rfl rfl ?_
  refine j_iconst (pc' := 179) (v := nI 2) dL_law_178 rfl rfl ?_
  first | refine j_iaddN' (pc' := 180) (by with_reducible rfl) (by with_reducible rfl) dL_law_179 rfl ?_ | refine j_iadd (pc' := 180) dL_law_179 rfl ?_
  refine j_sld (pc' := 181) rfl (by omega) hL5 dL_law_180 rfl ?_
  refine j_cVi (pc' := 184) m_L_17 (c_X6_add hm1 hV.z h16 h3 hc4) (by assumption) (by decide) rfl rfl rfl ⟨Nat.le_of_ble_eq_true rfl, Nat.le_of_ble_eq_true rfl⟩ ⟨Nat.le_of_ble_eq_true rfl, Nat.le_of_ble_eq_true rfl⟩ (Nat.le_of_ble_eq_true rfl) dL_law_181 rfl (fun x1 I1 hq => ?_)
  obtain ⟨rfl, rfl⟩ := hq
  first | refine j_icmp_eqN' (tgt := 838) (pc' := 187) (by with_reducible rfl) (by with_reducible rfl) (by omega) (by omega) dL_law_184 rfl (by decide) (fun c184 => ?_) (fun c184 => ?_) | refine j_icmp_eq (tgt := 838) (pc' := 187) dL_law_184 rfl (by decide) (fun c184 => ?_) (fun c184 => ?_)
  ·
    refine k _ _ _ _ _ _ (LJ.C hdm g1 hm g3 g4 g5 ?_ ?_ hS1 h3 h7)
    · exact fun hc => ⟨by rw [if_pos hc.1, if_neg hc.2]; exact gt_n (ie_n (by omega)), if_pos hc⟩
    · exact fun hc => ⟨by
        split
        · rename_i e
          split
          · decide
          · rename_i e2; exact absurd ⟨e, e2⟩ hc
        · decide, if_neg hc⟩
  ·
    exact absurd rfl c184
set_option maxRecDepth 100000 in
set_option maxHeartbeats 4000000 in
theorem st_set {E : jx_E} {l : Launch} {n : Nat} {kd : jx_K} {R : jx_R} {I : jx_I} {d m B i : Nat} {y4 y5 y6 y7 : Option Value} (hdm : d + 344 ≤ m) (hJ : LJ kd R I d m B) (hB : B + 70000 < 2147483000) (hi4 : i + 4 ≤ scL E) (hL5 : scL E ≤ 2048) (k : ∀ (R1 : jx_R) (I1 : jx_I) (z4 z5 z6 z7 : Option Value), LJ kd R1 I1 d m (B + 60000) → jx_J E l cL_law 8 ret RL false room_1 351 13484 jx_QL 351 13484 n kd R1 I1 838 [some (.ref (scA E)), some (.ref d), some (.ref m), some (.int (nI i)), z4, z5, z6, z7] []) : jx_J E l cL_law 8 ret RL false room_1 351 13484 jx_QL 351 13484 n kd R I 189 [some (.ref (scA E)), some (.ref d), some (.ref m), some (.int (nI i)), y4, y5, y6, y7] [] := by
  obtain ⟨P, q, L, hs, hm, hM, hS, h3, h7⟩ := id hJ
  obtain ⟨kk, T, S, N, hA, hV, hN, hX⟩ := hM.2.2.1
  have hc4 := hM.2.1
  have h16 := hV.k16
  obtain ⟨rk, hrk⟩ := hV.r
  have Kd := hs.1
  have Km := hm.1
  refine j_aload_n (pc' := 190) dL_law_189 rfl rfl ?_
  refine j_aload_n (pc' := 191) dL_law_190 rfl rfl ?_
  refine j_iload_n (pc' := 192) dL_law_191 rfl rfl ?_
  refine j_iconst (pc' := 193) (v := nI 1) dL_law_192 rfl rfl ?_
  first | refine j_iaddN' (pc' := 194) (by with_reducible rfl) (by with_reducible rfl) dL_law_193 rfl ?_ | refine j_iadd (pc' := 194) dL_law_193 rfl ?_
  refine j_sld (pc' := 195) rfl (by omega) hL5 dL_law_194 rfl ?_
  refine j_aload_n (pc' := 196) dL_law_195 rfl rfl ?_
  refine j_iload_n (pc' := 197) dL_law_196 rfl rfl ?_
  refine j_iconst (pc' := 198) (v := nI 2) dL_law_197 rfl rfl ?_
  first | refine j_iaddN' (pc' := 199) (by with_reducible rfl) (by with_reducible rfl) dL_law_198 rfl ?_ | refine j_iadd (pc' := 199) dL_law_198 rfl ?_
  refine j_sld (pc' := 200) rfl (by omega) hL5 dL_law_199 rfl ?_
  refine j_aload_n (pc' := 201) dL_law_200 rfl rfl ?_
  refine j_iload_n (pc' := 202) dL_law_201 rfl rfl ?_
  refine j_iconst (pc' := 203) (v := nI 3) dL_law_202 rfl rfl ?_
  first | refine j_iaddN' (pc' := 204) (by with_reducible rfl) (by with_reducible rfl) dL_law_203 rfl ?_ | refine j_iadd (pc' := 204) dL_law_203 rfl ?_
  refine j_sld (pc' := 205) rfl (by omega) hL5 dL_law_204 rfl ?_
  refine j_cViR (pc' := 208) m_L_18 (c_X5_set hs hM hA hV hN hX (by omega)) (by assumption) (by decide) rfl rfl rfl ⟨Nat.le_of_ble_eq_true rfl, Nat.le_of_ble_eq_true rfl⟩ ⟨Nat.le_of_ble_eq_true rfl, Nat.le_of_ble_eq_true rfl⟩ (Nat.le_of_ble_eq_true rfl) dL_law_205 rfl (fun x1 R1 I1 hq => ?_)
  obtain ⟨rfl, P1, g1, g2, g3, g4, g5⟩ := hq
  have em : ∀ z, m ≤ z → I1 z = I z := fun z hz => g2 z (by omega) (by omega) (by omega)
  refine j_eqI (mI_at em) ?_
  have hm1 := hm.cg g3 hdm
  have hS1 := hS.fr (fun z a b => g2 z (by omega) (by omega) (by omega))
  refine j_aload_n (pc' := 209) dL_law_208 rfl rfl ?_
  refine j_aload_n (pc' := 210) dL_law_209 rfl rfl ?_
  refine j_iload_n (pc' := 211) dL_law_210 rfl rfl ?_
  refine j_iconst (pc' := 212) (v := nI 1) dL_law_211 rfl rfl ?_
  first | refine j_iaddN' (pc' := 213) (by with_reducible rfl) (by with_reducible rfl) dL_law_212 rfl ?_ | refine j_iadd (pc' := 213) dL_law_212 rfl ?_
  refine j_sld (pc' := 214) rfl (by omega) hL5 dL_law_213 rfl ?_
  refine j_aload_n (pc' := 215) dL_law_214 rfl rfl ?_
  refine j_iload_n (pc' := 216) dL_law_215 rfl rfl ?_
  refine j_iconst (pc' := 217) (v := nI 2) dL_law_216 rfl rfl ?_
  first | refine j_iaddN' (pc' := 218) (by with_reducible rfl) (by with_reducible rfl) dL_law_217 rfl ?_ | refine j_iadd (pc' := 218) dL_law_217 rfl ?_
  refine j_sld (pc' := 219) rfl (by omega) hL5 dL_law_218 rfl ?_
  refine j_aload_n (pc' := 220) dL_law_219 rfl rfl ?_
  refine j_iload_n (pc' := 221) dL_law_220 rfl rfl ?_
  refine j_iconst (pc' := 222) (v := nI 3) dL_law_221 rfl rfl ?_
  first | refine j_iaddN' (pc' := 223) (by with_reducible rfl) (by with_reducible rfl) dL_law_222 rfl ?_ | refine j_iadd (pc' := 223) dL_law_222 rfl ?_
  refine j_sld (pc' := 224) rfl (by omega) hL5 dL_law_223 rfl ?_
  refine j_cVi (pc' := 227) m_L_22 (c_X6_set hm1 hV.z h16 h3 hc4 hV.n (by omega)) (by assumption) (by decide) rfl rfl rfl ⟨Nat.le_of_ble_eq_true rfl, Nat.le_of_ble_eq_true rfl⟩ ⟨Nat.le_of_ble_eq_true rfl, Nat.le_of_ble_eq_true rfl⟩ (Nat.le_of_ble_eq_true rfl) dL_law_224 rfl (fun x1 I1 hq => ?_)
  obtain ⟨rfl, rfl⟩ := hq
  first | refine j_icmp_eqN' (tgt := 838) (pc' := 230) (by with_reducible rfl) (by with_reducible rfl) (by omega) (by omega) dL_law_227 rfl (by decide) (fun c227 => ?_) (fun c227 => ?_) | refine j_icmp_eq (tgt := 838) (pc' := 230) dL_law_227 rfl (by decide) (fun c227 => ?_) (fun c227 => ?_)
  ·
    refine k _ _ _ _ _ _ (LJ.C hdm g1 hm g3 g4 g5 ?_ ?_ hS1 h3 h7)
    · exact fun hc => ⟨by
        rw [if_pos hc]
        have h7s := okS_lt hc.2
        obtain ⟨w, hw, e⟩ := okP_nat hV.z h16 hc.1
        rw [e, nI_clamp (show w < 2147483648 from by omega)]
        exact gt_n (okS_n (hV.st hw h7s)), if_pos hc⟩
    · exact fun hc => ⟨by rw [if_neg hc]; decide, if_neg hc⟩
  ·
    exact absurd rfl c227
set_option maxRecDepth 100000 in
set_option maxHeartbeats 4000000 in
theorem st_setRoot {E : jx_E} {l : Launch} {n : Nat} {kd : jx_K} {R : jx_R} {I : jx_I} {d m B i : Nat} {y4 y5 y6 y7 : Option Value} (hdm : d + 344 ≤ m) (hJ : LJ kd R I d m B) (hB : B + 70000 < 2147483000) (hi4 : i + 4 ≤ scL E) (hL5 : scL E ≤ 2048) (k : ∀ (R1 : jx_R) (I1 : jx_I) (z4 z5 z6 z7 : Option Value), LJ kd R1 I1 d m (B + 60000) → jx_J E l cL_law 8 ret RL false room_1 351 13484 jx_QL 351 13484 n kd R1 I1 838 [some (.ref (scA E)), some (.ref d), some (.ref m), some (.int (nI i)), z4, z5, z6, z7] []) : jx_J E l cL_law 8 ret RL false room_1 351 13484 jx_QL 351 13484 n kd R I 232 [some (.ref (scA E)), some (.ref d), some (.ref m), some (.int (nI i)), y4, y5, y6, y7] [] := by
  obtain ⟨P, q, L, hs, hm, hM, hS, h3, h7⟩ := id hJ
  obtain ⟨kk, T, S, N, hA, hV, hN, hX⟩ := hM.2.2.1
  have hc4 := hM.2.1
  have h16 := hV.k16
  obtain ⟨rk, hrk⟩ := hV.r
  have Kd := hs.1
  have Km := hm.1
  refine j_aload_n (pc' := 233) dL_law_232 rfl rfl ?_
  refine j_aload_n (pc' := 234) dL_law_233 rfl rfl ?_
  refine j_iload_n (pc' := 235) dL_law_234 rfl rfl ?_
  refine j_iconst (pc' := 236) (v := nI 1) dL_law_235 rfl rfl ?_
  first | refine j_iaddN' (pc' := 237) (by with_reducible rfl) (by with_reducible rfl) dL_law_236 rfl ?_ | refine j_iadd (pc' := 237) dL_law_236 rfl ?_
  refine j_sld (pc' := 238) rfl (by omega) hL5 dL_law_237 rfl ?_
  refine j_aload_n (pc' := 239) dL_law_238 rfl rfl ?_
  refine j_iload_n (pc' := 240) dL_law_239 rfl rfl ?_
  refine j_iconst (pc' := 241) (v := nI 2) dL_law_240 rfl rfl ?_
  first | refine j_iaddN' (pc' := 242) (by with_reducible rfl) (by with_reducible rfl) dL_law_241 rfl ?_ | refine j_iadd (pc' := 242) dL_law_241 rfl ?_
  refine j_sld (pc' := 243) rfl (by omega) hL5 dL_law_242 rfl ?_
  refine j_cViR (pc' := 246) m_L_23 (c_X5_setRoot hs hM hA hV hN hX (by omega)) (by assumption) (by decide) rfl rfl rfl ⟨Nat.le_of_ble_eq_true rfl, Nat.le_of_ble_eq_true rfl⟩ ⟨Nat.le_of_ble_eq_true rfl, Nat.le_of_ble_eq_true rfl⟩ (Nat.le_of_ble_eq_true rfl) dL_law_243 rfl (fun x1 R1 I1 hq => ?_)
  obtain ⟨rfl, P1, g1, g2, g3, g4, g5⟩ := hq
  have em : ∀ z, m ≤ z → I1 z = I z := fun z hz => g2 z (by omega) (by omega) (by omega)
  refine j_eqI (mI_at em) ?_
  have hm1 := hm.cg g3 hdm
  have hS1 := hS.fr (fun z a b => g2 z (by omega) (by omega) (by omega))
  refine j_aload_n (pc' := 247) dL_law_246 rfl rfl ?_
  refine j_aload_n (pc' := 248) dL_law_247 rfl rfl ?_
  refine j_iload_n (pc' := 249) dL_law_248 rfl rfl ?_
  refine j_iconst (pc' := 250) (v := nI 1) dL_law_249 rfl rfl ?_
  first | refine j_iaddN' (pc' := 251) (by with_reducible rfl) (by with_reducible rfl) dL_law_250 rfl ?_ | refine j_iadd (pc' := 251) dL_law_250 rfl ?_
  refine j_sld (pc' := 252) rfl (by omega) hL5 dL_law_251 rfl ?_
  refine j_aload_n (pc' := 253) dL_law_252 rfl rfl ?_
  refine j_iload_n (pc' := 254) dL_law_253 rfl rfl ?_
  refine j_iconst (pc' := 255) (v := nI 2) dL_law_254 rfl rfl ?_
  first | refine j_iaddN' (pc' := 256) (by with_reducible rfl) (by with_reducible rfl) dL_law_255 rfl ?_ | refine j_iadd (pc' := 256) dL_law_255 rfl ?_
  refine j_sld (pc' := 257) rfl (by omega) hL5 dL_law_256 rfl ?_
  refine j_cVi (pc' := 260) m_L_26 (c_X6_setRoot hm1 hV.z h16 h3 hc4 hrk) (by assumption) (by decide) rfl rfl rfl ⟨Nat.le_of_ble_eq_true rfl, Nat.le_of_ble_eq_true rfl⟩ ⟨Nat.le_of_ble_eq_true rfl, Nat.le_of_ble_eq_true rfl⟩ (Nat.le_of_ble_eq_true rfl) dL_law_257 rfl (fun x1 I1 hq => ?_)
  obtain ⟨rfl, rfl⟩ := hq
  first | refine j_icmp_eqN' (tgt := 838) (pc' := 263) (by with_reducible rfl) (by with_reducible rfl) (by omega) (by omega) dL_law_260 rfl (by decide) (fun c260 => ?_) (fun c260 => ?_) | refine j_icmp_eq (tgt := 838) (pc' := 263) dL_law_260 rfl (by decide) (fun c260 => ?_) (fun c260 => ?_)
  ·
    refine k _ _ _ _ _ _ (LJ.C hdm g1 hm g3 g4 g5 ?_ ?_ hS1 h3 h7)
    · exact fun hc => ⟨by
        rw [if_pos hc.1, if_neg hc.2]
        obtain ⟨w, hw, e⟩ := okP_nat hV.z h16 hc.1.1
        rw [e, nI_clamp (show w < 2147483648 from by omega)]
        rcases (hrk w hw).2 with e2 | ⟨j, hj, e2, _⟩
        · rw [e2]; decide
        · rw [e2]; exact gt_n (ie_n (by omega)), if_pos hc⟩
    · exact fun hc => ⟨by
        split
        · rename_i e
          split
          · decide
          · rename_i e2; exact absurd ⟨e, e2⟩ hc
        · decide, if_neg hc⟩
  ·
    exact absurd rfl c260
set_option maxRecDepth 100000 in
set_option maxHeartbeats 4000000 in
theorem st_setValue {E : jx_E} {l : Launch} {n : Nat} {kd : jx_K} {R : jx_R} {I : jx_I} {d m B i : Nat} {y4 y5 y6 y7 : Option Value} (hdm : d + 344 ≤ m) (hJ : LJ kd R I d m B) (hB : B + 70000 < 2147483000) (hi4 : i + 4 ≤ scL E) (hL5 : scL E ≤ 2048) (k : ∀ (R1 : jx_R) (I1 : jx_I) (z4 z5 z6 z7 : Option Value), LJ kd R1 I1 d m (B + 60000) → jx_J E l cL_law 8 ret RL false room_1 351 13484 jx_QL 351 13484 n kd R1 I1 838 [some (.ref (scA E)), some (.ref d), some (.ref m), some (.int (nI i)), z4, z5, z6, z7] []) : jx_J E l cL_law 8 ret RL false room_1 351 13484 jx_QL 351 13484 n kd R I 265 [some (.ref (scA E)), some (.ref d), some (.ref m), some (.int (nI i)), y4, y5, y6, y7] [] := by
  obtain ⟨P, q, L, hs, hm, hM, hS, h3, h7⟩ := id hJ
  obtain ⟨kk, T, S, N, hA, hV, hN, hX⟩ := hM.2.2.1
  have hc4 := hM.2.1
  have h16 := hV.k16
  obtain ⟨rk, hrk⟩ := hV.r
  have Kd := hs.1
  have Km := hm.1
  refine j_aload_n (pc' := 266) dL_law_265 rfl rfl ?_
  refine j_aload_n (pc' := 267) dL_law_266 rfl rfl ?_
  refine j_iload_n (pc' := 268) dL_law_267 rfl rfl ?_
  refine j_iconst (pc' := 269) (v := nI 1) dL_law_268 rfl rfl ?_
  first | refine j_iaddN' (pc' := 270) (by with_reducible rfl) (by with_reducible rfl) dL_law_269 rfl ?_ | refine j_iadd (pc' := 270) dL_law_269 rfl ?_
  refine j_sld (pc' := 271) rfl (by omega) hL5 dL_law_270 rfl ?_
  refine j_aload_n (pc' := 272) dL_law_271 rfl rfl ?_
  refine j_iload_n (pc' := 273) dL_law_272 rfl rfl ?_
  refine j_iconst (pc' := 274) (v := nI 2) dL_law_273 rfl rfl ?_
  first | refine j_iaddN' (pc' := 275) (by with_reducible rfl) (by with_reducible rfl) dL_law_274 rfl ?_ | refine j_iadd (pc' := 275) dL_law_274 rfl ?_
  refine j_sld (pc' := 276) rfl (by omega) hL5 dL_law_275 rfl ?_
  refine j_cViR (pc' := 279) m_L_27 (c_X5_setValue hs hM hA hV hN hX (by omega)) (by assumption) (by decide) rfl rfl rfl ⟨Nat.le_of_ble_eq_true rfl, Nat.le_of_ble_eq_true rfl⟩ ⟨Nat.le_of_ble_eq_true rfl, Nat.le_of_ble_eq_true rfl⟩ (Nat.le_of_ble_eq_true rfl) dL_law_276 rfl (fun x1 R1 I1 hq => ?_)
  obtain ⟨rfl, P1, g1, g2, g3, g4, g5⟩ := hq
  have em : ∀ z, m ≤ z → I1 z = I z := fun z hz => g2 z (by omega) (by omega) (by omega)
  refine j_eqI (mI_at em) ?_
  have hm1 := hm.cg g3 hdm
  have hS1 := hS.fr (fun z a b => g2 z (by omega) (by omega) (by omega))
  refine j_aload_n (pc' := 280) dL_law_279 rfl rfl ?_
  refine j_aload_n (pc' := 281) dL_law_280 rfl rfl ?_
  refine j_iload_n (pc' := 282) dL_law_281 rfl rfl ?_
  refine j_iconst (pc' := 283) (v := nI 1) dL_law_282 rfl rfl ?_
  first | refine j_iaddN' (pc' := 284) (by with_reducible rfl) (by with_reducible rfl) dL_law_283 rfl ?_ | refine j_iadd (pc' := 284) dL_law_283 rfl ?_
  refine j_sld (pc' := 285) rfl (by omega) hL5 dL_law_284 rfl ?_
  refine j_aload_n (pc' := 286) dL_law_285 rfl rfl ?_
  refine j_iload_n (pc' := 287) dL_law_286 rfl rfl ?_
  refine j_iconst (pc' := 288) (v := nI 2) dL_law_287 rfl rfl ?_
  first | refine j_iaddN' (pc' := 289) (by with_reducible rfl) (by with_reducible rfl) dL_law_288 rfl ?_ | refine j_iadd (pc' := 289) dL_law_288 rfl ?_
  refine j_sld (pc' := 290) rfl (by omega) hL5 dL_law_289 rfl ?_
  refine j_cVi (pc' := 293) m_L_30 (c_X6_setValue hm1 hV.z h16 h3 hc4) (by assumption) (by decide) rfl rfl rfl ⟨Nat.le_of_ble_eq_true rfl, Nat.le_of_ble_eq_true rfl⟩ ⟨Nat.le_of_ble_eq_true rfl, Nat.le_of_ble_eq_true rfl⟩ (Nat.le_of_ble_eq_true rfl) dL_law_290 rfl (fun x1 I1 hq => ?_)
  obtain ⟨rfl, rfl⟩ := hq
  first | refine j_icmp_eqN' (tgt := 838) (pc' := 296) (by with_reducible rfl) (by with_reducible rfl) (by omega) (by omega) dL_law_293 rfl (by decide) (fun c293 => ?_) (fun c293 => ?_) | refine j_icmp_eq (tgt := 838) (pc' := 296) dL_law_293 rfl (by decide) (fun c293 => ?_) (fun c293 => ?_)
  ·
    exact k _ _ _ _ _ _ (LJ.A hdm g1 hm g3 g4 g5 (ie_val hV hX) hS1 h3 h7)
  ·
    exact absurd rfl c293
set_option maxRecDepth 100000 in
set_option maxHeartbeats 4000000 in
theorem st_point {E : jx_E} {l : Launch} {n : Nat} {kd : jx_K} {R : jx_R} {I : jx_I} {d m B i : Nat} {y4 y5 y6 y7 : Option Value} (hdm : d + 344 ≤ m) (hJ : LJ kd R I d m B) (hB : B + 70000 < 2147483000) (hi4 : i + 4 ≤ scL E) (hL5 : scL E ≤ 2048) (k : ∀ (R1 : jx_R) (I1 : jx_I) (z4 z5 z6 z7 : Option Value), LJ kd R1 I1 d m (B + 60000) → jx_J E l cL_law 8 ret RL false room_1 351 13484 jx_QL 351 13484 n kd R1 I1 838 [some (.ref (scA E)), some (.ref d), some (.ref m), some (.int (nI i)), z4, z5, z6, z7] []) : jx_J E l cL_law 8 ret RL false room_1 351 13484 jx_QL 351 13484 n kd R I 298 [some (.ref (scA E)), some (.ref d), some (.ref m), some (.int (nI i)), y4, y5, y6, y7] [] := by
  obtain ⟨P, q, L, hs, hm, hM, hS, h3, h7⟩ := id hJ
  obtain ⟨kk, T, S, N, hA, hV, hN, hX⟩ := hM.2.2.1
  have hc4 := hM.2.1
  have h16 := hV.k16
  obtain ⟨rk, hrk⟩ := hV.r
  have Kd := hs.1
  have Km := hm.1
  refine j_aload_n (pc' := 299) dL_law_298 rfl rfl ?_
  refine j_aload_n (pc' := 300) dL_law_299 rfl rfl ?_
  refine j_iload_n (pc' := 301) dL_law_300 rfl rfl ?_
  refine j_iconst (pc' := 302) (v := nI 1) dL_law_301 rfl rfl ?_
  first | refine j_iaddN' (pc' := 303) (by with_reducible rfl) (by with_reducible rfl) dL_law_302 rfl ?_ | refine j_iadd (pc' := 303) dL_law_302 rfl ?_
  refine j_sld (pc' := 304) rfl (by omega) hL5 dL_law_303 rfl ?_
  refine j_aload_n (pc' := 305) dL_law_304 rfl rfl ?_
  refine j_iload_n (pc' := 306) dL_law_305 rfl rfl ?_
  refine j_iconst (pc' := 307) (v := nI 2) dL_law_306 rfl rfl ?_
  first | refine j_iaddN' (pc' := 308) (by with_reducible rfl) (by with_reducible rfl) dL_law_307 rfl ?_ | refine j_iadd (pc' := 308) dL_law_307 rfl ?_
  refine j_sld (pc' := 309) rfl (by omega) hL5 dL_law_308 rfl ?_
  refine j_cVi (pc' := 312) m_L_31 (c_X5_point hs hA hV (by omega)) (by assumption) (by decide) rfl rfl rfl ⟨Nat.le_of_ble_eq_true rfl, Nat.le_of_ble_eq_true rfl⟩ ⟨Nat.le_of_ble_eq_true rfl, Nat.le_of_ble_eq_true rfl⟩ (Nat.le_of_ble_eq_true rfl) dL_law_309 rfl (fun x1 I1 hq => ?_)
  obtain ⟨rfl, rfl⟩ := hq
  refine j_eqI (mI_eta _ m).symm ?_
  refine j_aload_n (pc' := 313) dL_law_312 rfl rfl ?_
  refine j_aload_n (pc' := 314) dL_law_313 rfl rfl ?_
  refine j_iload_n (pc' := 315) dL_law_314 rfl rfl ?_
  refine j_iconst (pc' := 316) (v := nI 1) dL_law_315 rfl rfl ?_
  first | refine j_iaddN' (pc' := 317) (by with_reducible rfl) (by with_reducible rfl) dL_law_316 rfl ?_ | refine j_iadd (pc' := 317) dL_law_316 rfl ?_
  refine j_sld (pc' := 318) rfl (by omega) hL5 dL_law_317 rfl ?_
  refine j_aload_n (pc' := 319) dL_law_318 rfl rfl ?_
  refine j_iload_n (pc' := 320) dL_law_319 rfl rfl ?_
  refine j_iconst (pc' := 321) (v := nI 2) dL_law_320 rfl rfl ?_
  first | refine j_iaddN' (pc' := 322) (by with_reducible rfl) (by with_reducible rfl) dL_law_321 rfl ?_ | refine j_iadd (pc' := 322) dL_law_321 rfl ?_
  refine j_sld (pc' := 323) rfl (by omega) hL5 dL_law_322 rfl ?_
  refine j_cVi (pc' := 326) m_L_34 (c_X6_point hm hV.z h16 hrk) (by assumption) (by decide) rfl rfl rfl ⟨Nat.le_of_ble_eq_true rfl, Nat.le_of_ble_eq_true rfl⟩ ⟨Nat.le_of_ble_eq_true rfl, Nat.le_of_ble_eq_true rfl⟩ (Nat.le_of_ble_eq_true rfl) dL_law_323 rfl (fun x1 I1 hq => ?_)
  obtain ⟨rfl, rfl⟩ := hq
  refine j_eqI (mI_eta _ m) ?_
  first | refine j_icmp_eqN' (tgt := 838) (pc' := 329) (by with_reducible rfl) (by with_reducible rfl) (by omega) (by omega) dL_law_326 rfl (by decide) (fun c326 => ?_) (fun c326 => ?_) | refine j_icmp_eq (tgt := 838) (pc' := 329) dL_law_326 rfl (by decide) (fun c326 => ?_) (fun c326 => ?_)
  ·
    exact k _ _ _ _ _ _ (hJ.mono (by omega))
  ·
    exact absurd rfl c326
set_option maxRecDepth 100000 in
set_option maxHeartbeats 4000000 in
theorem st_points {E : jx_E} {l : Launch} {n : Nat} {kd : jx_K} {R : jx_R} {I : jx_I} {d m B i : Nat} {y4 y5 y6 y7 : Option Value} (hdm : d + 344 ≤ m) (hJ : LJ kd R I d m B) (hB : B + 70000 < 2147483000) (hi4 : i + 4 ≤ scL E) (hL5 : scL E ≤ 2048) (k : ∀ (R1 : jx_R) (I1 : jx_I) (z4 z5 z6 z7 : Option Value), LJ kd R1 I1 d m (B + 60000) → jx_J E l cL_law 8 ret RL false room_1 351 13484 jx_QL 351 13484 n kd R1 I1 838 [some (.ref (scA E)), some (.ref d), some (.ref m), some (.int (nI i)), z4, z5, z6, z7] []) : jx_J E l cL_law 8 ret RL false room_1 351 13484 jx_QL 351 13484 n kd R I 331 [some (.ref (scA E)), some (.ref d), some (.ref m), some (.int (nI i)), y4, y5, y6, y7] [] := by
  obtain ⟨P, q, L, hs, hm, hM, hS, h3, h7⟩ := id hJ
  obtain ⟨kk, T, S, N, hA, hV, hN, hX⟩ := hM.2.2.1
  have hc4 := hM.2.1
  have h16 := hV.k16
  obtain ⟨rk, hrk⟩ := hV.r
  have Kd := hs.1
  have Km := hm.1
  refine j_aload_n (pc' := 332) dL_law_331 rfl rfl ?_
  refine j_cVi (pc' := 335) m_L_35 (c_X5_points hs hA hV (by omega)) (by assumption) (by decide) rfl rfl rfl ⟨Nat.le_of_ble_eq_true rfl, Nat.le_of_ble_eq_true rfl⟩ ⟨Nat.le_of_ble_eq_true rfl, Nat.le_of_ble_eq_true rfl⟩ (Nat.le_of_ble_eq_true rfl) dL_law_332 rfl (fun x1 I1 hq => ?_)
  obtain ⟨rfl, rfl⟩ := hq
  refine j_eqI (mI_eta _ m).symm ?_
  refine j_aload_n (pc' := 336) dL_law_335 rfl rfl ?_
  refine j_cVi (pc' := 339) m_L_39 (c_X6_points hm) (by assumption) (by decide) rfl rfl rfl ⟨Nat.le_of_ble_eq_true rfl, Nat.le_of_ble_eq_true rfl⟩ ⟨Nat.le_of_ble_eq_true rfl, Nat.le_of_ble_eq_true rfl⟩ (Nat.le_of_ble_eq_true rfl) dL_law_336 rfl (fun x1 I1 hq => ?_)
  obtain ⟨rfl, rfl⟩ := hq
  refine j_eqI (mI_eta _ m) ?_
  first | refine j_icmp_eqN' (tgt := 838) (pc' := 342) (by with_reducible rfl) (by with_reducible rfl) (by omega) (by omega) dL_law_339 rfl (by decide) (fun c339 => ?_) (fun c339 => ?_) | refine j_icmp_eq (tgt := 838) (pc' := 342) dL_law_339 rfl (by decide) (fun c339 => ?_) (fun c339 => ?_)
  ·
    exact k _ _ _ _ _ _ (hJ.mono (by omega))
  ·
    exact absurd rfl c339
set_option maxRecDepth 100000 in
set_option maxHeartbeats 4000000 in
theorem st_setState {E : jx_E} {l : Launch} {n : Nat} {kd : jx_K} {R : jx_R} {I : jx_I} {d m B i : Nat} {y4 y5 y6 y7 : Option Value} (hdm : d + 344 ≤ m) (hJ : LJ kd R I d m B) (hB : B + 70000 < 2147483000) (hi4 : i + 4 ≤ scL E) (hL5 : scL E ≤ 2048) (k : ∀ (R1 : jx_R) (I1 : jx_I) (z4 z5 z6 z7 : Option Value), LJ kd R1 I1 d m (B + 60000) → jx_J E l cL_law 8 ret RL false room_1 351 13484 jx_QL 351 13484 n kd R1 I1 838 [some (.ref (scA E)), some (.ref d), some (.ref m), some (.int (nI i)), z4, z5, z6, z7] []) : jx_J E l cL_law 8 ret RL false room_1 351 13484 jx_QL 351 13484 n kd R I 344 [some (.ref (scA E)), some (.ref d), some (.ref m), some (.int (nI i)), y4, y5, y6, y7] [] := by
  obtain ⟨P, q, L, hs, hm, hM, hS, h3, h7⟩ := id hJ
  obtain ⟨kk, T, S, N, hA, hV, hN, hX⟩ := hM.2.2.1
  have hc4 := hM.2.1
  have h16 := hV.k16
  obtain ⟨rk, hrk⟩ := hV.r
  have Kd := hs.1
  have Km := hm.1
  refine j_aload_n (pc' := 345) dL_law_344 rfl rfl ?_
  refine j_aload_n (pc' := 346) dL_law_345 rfl rfl ?_
  refine j_iload_n (pc' := 347) dL_law_346 rfl rfl ?_
  refine j_iconst (pc' := 348) (v := nI 1) dL_law_347 rfl rfl ?_
  first | refine j_iaddN' (pc' := 349) (by with_reducible rfl) (by with_reducible rfl) dL_law_348 rfl ?_ | refine j_iadd (pc' := 349) dL_law_348 rfl ?_
  refine j_sld (pc' := 350) rfl (by omega) hL5 dL_law_349 rfl ?_
  refine j_cViR (pc' := 353) m_L_40 (c_X5_setState hs hM hA hV hN hX (by omega)) (by assumption) (by decide) rfl rfl rfl ⟨Nat.le_of_ble_eq_true rfl, Nat.le_of_ble_eq_true rfl⟩ ⟨Nat.le_of_ble_eq_true rfl, Nat.le_of_ble_eq_true rfl⟩ (Nat.le_of_ble_eq_true rfl) dL_law_350 rfl (fun x1 R1 I1 hq => ?_)
  obtain ⟨rfl, P1, g1, g2, g3, g4, g5⟩ := hq
  have em : ∀ z, m ≤ z → I1 z = I z := fun z hz => g2 z (by omega) (by omega) (by omega)
  refine j_eqI (mI_at em) ?_
  have hm1 := hm.cg g3 hdm
  have hS1 := hS.fr (fun z a b => g2 z (by omega) (by omega) (by omega))
  refine j_aload_n (pc' := 354) dL_law_353 rfl rfl ?_
  refine j_aload_n (pc' := 355) dL_law_354 rfl rfl ?_
  refine j_iload_n (pc' := 356) dL_law_355 rfl rfl ?_
  refine j_iconst (pc' := 357) (v := nI 1) dL_law_356 rfl rfl ?_
  first | refine j_iaddN' (pc' := 358) (by with_reducible rfl) (by with_reducible rfl) dL_law_357 rfl ?_ | refine j_iadd (pc' := 358) dL_law_357 rfl ?_
  refine j_sld (pc' := 359) rfl (by omega) hL5 dL_law_358 rfl ?_
  refine j_cVi (pc' := 362) m_L_44 (c_X6_setState hm1 h3 hc4) (by assumption) (by decide) rfl rfl rfl ⟨Nat.le_of_ble_eq_true rfl, Nat.le_of_ble_eq_true rfl⟩ ⟨Nat.le_of_ble_eq_true rfl, Nat.le_of_ble_eq_true rfl⟩ (Nat.le_of_ble_eq_true rfl) dL_law_359 rfl (fun x1 I1 hq => ?_)
  obtain ⟨rfl, rfl⟩ := hq
  first | refine j_icmp_eqN' (tgt := 838) (pc' := 365) (by with_reducible rfl) (by with_reducible rfl) (by omega) (by omega) dL_law_362 rfl (by decide) (fun c362 => ?_) (fun c362 => ?_) | refine j_icmp_eq (tgt := 838) (pc' := 365) dL_law_362 rfl (by decide) (fun c362 => ?_) (fun c362 => ?_)
  ·
    exact k _ _ _ _ _ _ (LJ.A hdm g1 hm g3 g4 g5 (ie_mod hV) hS1 h3 h7)
  ·
    exact absurd rfl c362
set_option maxRecDepth 100000 in
set_option maxHeartbeats 4000000 in
theorem st_setFlood {E : jx_E} {l : Launch} {n : Nat} {kd : jx_K} {R : jx_R} {I : jx_I} {d m B i : Nat} {y4 y5 y6 y7 : Option Value} (hdm : d + 344 ≤ m) (hJ : LJ kd R I d m B) (hB : B + 70000 < 2147483000) (hi4 : i + 4 ≤ scL E) (hL5 : scL E ≤ 2048) (k : ∀ (R1 : jx_R) (I1 : jx_I) (z4 z5 z6 z7 : Option Value), LJ kd R1 I1 d m (B + 60000) → jx_J E l cL_law 8 ret RL false room_1 351 13484 jx_QL 351 13484 n kd R1 I1 838 [some (.ref (scA E)), some (.ref d), some (.ref m), some (.int (nI i)), z4, z5, z6, z7] []) : jx_J E l cL_law 8 ret RL false room_1 351 13484 jx_QL 351 13484 n kd R I 367 [some (.ref (scA E)), some (.ref d), some (.ref m), some (.int (nI i)), y4, y5, y6, y7] [] := by
  obtain ⟨P, q, L, hs, hm, hM, hS, h3, h7⟩ := id hJ
  obtain ⟨kk, T, S, N, hA, hV, hN, hX⟩ := hM.2.2.1
  have hc4 := hM.2.1
  have h16 := hV.k16
  obtain ⟨rk, hrk⟩ := hV.r
  have Kd := hs.1
  have Km := hm.1
  refine j_aload_n (pc' := 368) dL_law_367 rfl rfl ?_
  refine j_aload_n (pc' := 369) dL_law_368 rfl rfl ?_
  refine j_iload_n (pc' := 370) dL_law_369 rfl rfl ?_
  refine j_iconst (pc' := 371) (v := nI 1) dL_law_370 rfl rfl ?_
  first | refine j_iaddN' (pc' := 372) (by with_reducible rfl) (by with_reducible rfl) dL_law_371 rfl ?_ | refine j_iadd (pc' := 372) dL_law_371 rfl ?_
  refine j_sld (pc' := 373) rfl (by omega) hL5 dL_law_372 rfl ?_
  refine j_aload_n (pc' := 374) dL_law_373 rfl rfl ?_
  refine j_iload_n (pc' := 375) dL_law_374 rfl rfl ?_
  refine j_iconst (pc' := 376) (v := nI 2) dL_law_375 rfl rfl ?_
  first | refine j_iaddN' (pc' := 377) (by with_reducible rfl) (by with_reducible rfl) dL_law_376 rfl ?_ | refine j_iadd (pc' := 377) dL_law_376 rfl ?_
  refine j_sld (pc' := 378) rfl (by omega) hL5 dL_law_377 rfl ?_
  refine j_aload_n (pc' := 379) dL_law_378 rfl rfl ?_
  refine j_iload_n (pc' := 380) dL_law_379 rfl rfl ?_
  refine j_iconst (pc' := 381) (v := nI 3) dL_law_380 rfl rfl ?_
  first | refine j_iaddN' (pc' := 382) (by with_reducible rfl) (by with_reducible rfl) dL_law_381 rfl ?_ | refine j_iadd (pc' := 382) dL_law_381 rfl ?_
  refine j_sld (pc' := 383) rfl (by omega) hL5 dL_law_382 rfl ?_
  refine j_cViR (pc' := 386) m_L_45 (c_X5_setFlood hs hM hA hV hN hX (by omega)) (by assumption) (by decide) rfl rfl rfl ⟨Nat.le_of_ble_eq_true rfl, Nat.le_of_ble_eq_true rfl⟩ ⟨Nat.le_of_ble_eq_true rfl, Nat.le_of_ble_eq_true rfl⟩ (Nat.le_of_ble_eq_true rfl) dL_law_383 rfl (fun x1 R1 I1 hq => ?_)
  obtain ⟨rfl, P1, g1, g2, g3, g4, g5⟩ := hq
  have em : ∀ z, m ≤ z → I1 z = I z := fun z hz => g2 z (by omega) (by omega) (by omega)
  refine j_eqI (mI_at em) ?_
  have hm1 := hm.cg g3 hdm
  have hS1 := hS.fr (fun z a b => g2 z (by omega) (by omega) (by omega))
  refine j_aload_n (pc' := 387) dL_law_386 rfl rfl ?_
  refine j_aload_n (pc' := 388) dL_law_387 rfl rfl ?_
  refine j_iload_n (pc' := 389) dL_law_388 rfl rfl ?_
  refine j_iconst (pc' := 390) (v := nI 1) dL_law_389 rfl rfl ?_
  first | refine j_iaddN' (pc' := 391) (by with_reducible rfl) (by with_reducible rfl) dL_law_390 rfl ?_ | refine j_iadd (pc' := 391) dL_law_390 rfl ?_
  refine j_sld (pc' := 392) rfl (by omega) hL5 dL_law_391 rfl ?_
  refine j_aload_n (pc' := 393) dL_law_392 rfl rfl ?_
  refine j_iload_n (pc' := 394) dL_law_393 rfl rfl ?_
  refine j_iconst (pc' := 395) (v := nI 2) dL_law_394 rfl rfl ?_
  first | refine j_iaddN' (pc' := 396) (by with_reducible rfl) (by with_reducible rfl) dL_law_395 rfl ?_ | refine j_iadd (pc' := 396) dL_law_395 rfl ?_
  refine j_sld (pc' := 397) rfl (by omega) hL5 dL_law_396 rfl ?_
  refine j_aload_n (pc' := 398) dL_law_397 rfl rfl ?_
  refine j_iload_n (pc' := 399) dL_law_398 rfl rfl ?_
  refine j_iconst (pc' := 400) (v := nI 3) dL_law_399 rfl rfl ?_
  first | refine j_iaddN' (pc' := 401) (by with_reducible rfl) (by with_reducible rfl) dL_law_400 rfl ?_ | refine j_iadd (pc' := 401) dL_law_400 rfl ?_
  refine j_sld (pc' := 402) rfl (by omega) hL5 dL_law_401 rfl ?_
  refine j_cVi (pc' := 405) m_L_48 (c_X6_setFlood hm1 h3 hc4) (by assumption) (by decide) rfl rfl rfl ⟨Nat.le_of_ble_eq_true rfl, Nat.le_of_ble_eq_true rfl⟩ ⟨Nat.le_of_ble_eq_true rfl, Nat.le_of_ble_eq_true rfl⟩ (Nat.le_of_ble_eq_true rfl) dL_law_402 rfl (fun x1 I1 hq => ?_)
  obtain ⟨rfl, rfl⟩ := hq
  first | refine j_icmp_eqN' (tgt := 838) (pc' := 408) (by with_reducible rfl) (by with_reducible rfl) (by omega) (by omega) dL_law_405 rfl (by decide) (fun c405 => ?_) (fun c405 => ?_) | refine j_icmp_eq (tgt := 838) (pc' := 408) dL_law_405 rfl (by decide) (fun c405 => ?_) (fun c405 => ?_)
  ·
    refine k _ _ _ _ _ _ (LJ.C hdm g1 hm g3 g4 g5 ?_ ?_ hS1 h3 h7)
    · exact fun hc => ⟨by
        rw [if_pos hc]
        obtain ⟨_, ⟨a6, ha6, e6⟩, a7, ha7, e7⟩ := hX
        have hS60 := hV.sl
        rw [hV.s, e6, e7, pk_mul, pk_mul, nI_add, nI_add]
        exact gt_n (ie_n (by omega)), if_pos hc⟩
    · exact fun hc => ⟨by rw [if_neg hc]; decide, if_neg hc⟩
  ·
    exact absurd rfl c405
set_option maxRecDepth 100000 in
set_option maxHeartbeats 4000000 in
theorem st_tick {E : jx_E} {l : Launch} {n : Nat} {kd : jx_K} {R : jx_R} {I : jx_I} {d m B i : Nat} {y4 y5 y6 y7 : Option Value} (hdm : d + 344 ≤ m) (hJ : LJ kd R I d m B) (hB : B + 70000 < 2147483000) (hi4 : i + 4 ≤ scL E) (hL5 : scL E ≤ 2048) (k : ∀ (R1 : jx_R) (I1 : jx_I) (z4 z5 z6 z7 : Option Value), LJ kd R1 I1 d m (B + 60000) → jx_J E l cL_law 8 ret RL false room_1 351 13484 jx_QL 351 13484 n kd R1 I1 838 [some (.ref (scA E)), some (.ref d), some (.ref m), some (.int (nI i)), z4, z5, z6, z7] []) : jx_J E l cL_law 8 ret RL false room_1 351 13484 jx_QL 351 13484 n kd R I 410 [some (.ref (scA E)), some (.ref d), some (.ref m), some (.int (nI i)), y4, y5, y6, y7] [] := by
  obtain ⟨P, q, L, hs, hm, hM, hS, h3, h7⟩ := id hJ
  obtain ⟨kk, T, S, N, hA, hV, hN, hX⟩ := hM.2.2.1
  have hc4 := hM.2.1
  have h16 := hV.k16
  obtain ⟨rk, hrk⟩ := hV.r
  have Kd := hs.1
  have Km := hm.1
  refine j_aload_n (pc' := 411) dL_law_410 rfl rfl ?_
  refine j_aload_n (pc' := 412) dL_law_411 rfl rfl ?_
  refine j_iload_n (pc' := 413) dL_law_412 rfl rfl ?_
  refine j_iconst (pc' := 414) (v := nI 1) dL_law_413 rfl rfl ?_
  first | refine j_iaddN' (pc' := 415) (by with_reducible rfl) (by with_reducible rfl) dL_law_414 rfl ?_ | refine j_iadd (pc' := 415) dL_law_414 rfl ?_
  refine j_sld (pc' := 416) rfl (by omega) hL5 dL_law_415 rfl ?_
  refine j_cViR (pc' := 419) m_L_49 (c_X5_tick hs hM hA hV hN hX (by omega)) (by assumption) (by decide) rfl rfl rfl ⟨Nat.le_of_ble_eq_true rfl, Nat.le_of_ble_eq_true rfl⟩ ⟨Nat.le_of_ble_eq_true rfl, Nat.le_of_ble_eq_true rfl⟩ (Nat.le_of_ble_eq_true rfl) dL_law_416 rfl (fun x1 R1 I1 hq => ?_)
  obtain ⟨rfl, P1, g1, g2, g3, g4, g5⟩ := hq
  have em : ∀ z, m ≤ z → I1 z = I z := fun z hz => g2 z (by omega) (by omega) (by omega)
  refine j_eqI (mI_at em) ?_
  have hm1 := hm.cg g3 hdm
  have hS1 := hS.fr (fun z a b => g2 z (by omega) (by omega) (by omega))
  refine j_aload_n (pc' := 420) dL_law_419 rfl rfl ?_
  refine j_aload_n (pc' := 421) dL_law_420 rfl rfl ?_
  refine j_iload_n (pc' := 422) dL_law_421 rfl rfl ?_
  refine j_iconst (pc' := 423) (v := nI 1) dL_law_422 rfl rfl ?_
  first | refine j_iaddN' (pc' := 424) (by with_reducible rfl) (by with_reducible rfl) dL_law_423 rfl ?_ | refine j_iadd (pc' := 424) dL_law_423 rfl ?_
  refine j_sld (pc' := 425) rfl (by omega) hL5 dL_law_424 rfl ?_
  refine j_cVi (pc' := 428) m_L_52 (c_X6_tick hm1 h16 hV.z hV.t hV.tl hV.s hV.sl hV.n (by omega) hV.K5 h3 hc4) (by assumption) (by decide) rfl rfl rfl ⟨Nat.le_of_ble_eq_true rfl, Nat.le_of_ble_eq_true rfl⟩ ⟨Nat.le_of_ble_eq_true rfl, Nat.le_of_ble_eq_true rfl⟩ (Nat.le_of_ble_eq_true rfl) dL_law_425 rfl (fun x1 I1 hq => ?_)
  obtain ⟨rfl, rfl⟩ := hq
  first | refine j_icmp_eqN' (tgt := 838) (pc' := 431) (by with_reducible rfl) (by with_reducible rfl) (by omega) (by omega) dL_law_428 rfl (by decide) (fun c428 => ?_) (fun c428 => ?_) | refine j_icmp_eq (tgt := 838) (pc' := 431) dL_law_428 rfl (by decide) (fun c428 => ?_) (fun c428 => ?_)
  ·
    exact k _ _ _ _ _ _ (LJ.A hdm g1 hm g3 g4 g5 (ie_tks) hS1 h3 h7)
  ·
    exact absurd rfl c428
set_option maxRecDepth 100000 in
set_option maxHeartbeats 4000000 in
theorem st_plant {E : jx_E} {l : Launch} {n : Nat} {kd : jx_K} {R : jx_R} {I : jx_I} {d m B i : Nat} {y4 y5 y6 y7 : Option Value} (hdm : d + 344 ≤ m) (hJ : LJ kd R I d m B) (hB : B + 70000 < 2147483000) (hi4 : i + 4 ≤ scL E) (hL5 : scL E ≤ 2048) (k : ∀ (R1 : jx_R) (I1 : jx_I) (z4 z5 z6 z7 : Option Value), LJ kd R1 I1 d m (B + 60000) → jx_J E l cL_law 8 ret RL false room_1 351 13484 jx_QL 351 13484 n kd R1 I1 838 [some (.ref (scA E)), some (.ref d), some (.ref m), some (.int (nI i)), z4, z5, z6, z7] []) : jx_J E l cL_law 8 ret RL false room_1 351 13484 jx_QL 351 13484 n kd R I 433 [some (.ref (scA E)), some (.ref d), some (.ref m), some (.int (nI i)), y4, y5, y6, y7] [] := by
  obtain ⟨P, q, L, hs, hm, hM, hS, h3, h7⟩ := id hJ
  obtain ⟨kk, T, S, N, hA, hV, hN, hX⟩ := hM.2.2.1
  have hc4 := hM.2.1
  have h16 := hV.k16
  obtain ⟨rk, hrk⟩ := hV.r
  have Kd := hs.1
  have Km := hm.1
  refine j_aload_n (pc' := 434) dL_law_433 rfl rfl ?_
  refine j_aload_n (pc' := 435) dL_law_434 rfl rfl ?_
  refine j_iload_n (pc' := 436) dL_law_435 rfl rfl ?_
  refine j_iconst (pc' := 437) (v := nI 1) dL_law_436 rfl rfl ?_
  first | refine j_iaddN' (pc' := 438) (by with_reducible rfl) (by with_reducible rfl) dL_law_437 rfl ?_ | refine j_iadd (pc' := 438) dL_law_437 rfl ?_
  refine j_sld (pc' := 439) rfl (by omega) hL5 dL_law_438 rfl ?_
  refine j_cVi (pc' := 442) m_L_53 (c_X5_plant hs hA hV (by omega)) (by assumption) (by decide) rfl rfl rfl ⟨Nat.le_of_ble_eq_true rfl, Nat.le_of_ble_eq_true rfl⟩ ⟨Nat.le_of_ble_eq_true rfl, Nat.le_of_ble_eq_true rfl⟩ (Nat.le_of_ble_eq_true rfl) dL_law_439 rfl (fun x1 I1 hq => ?_)
  obtain ⟨rfl, rfl⟩ := hq
  refine j_eqI (mI_eta _ m).symm ?_
  refine j_aload_n (pc' := 443) dL_law_442 rfl rfl ?_
  refine j_aload_n (pc' := 444) dL_law_443 rfl rfl ?_
  refine j_iload_n (pc' := 445) dL_law_444 rfl rfl ?_
  refine j_iconst (pc' := 446) (v := nI 1) dL_law_445 rfl rfl ?_
  first | refine j_iaddN' (pc' := 447) (by with_reducible rfl) (by with_reducible rfl) dL_law_446 rfl ?_ | refine j_iadd (pc' := 447) dL_law_446 rfl ?_
  refine j_sld (pc' := 448) rfl (by omega) hL5 dL_law_447 rfl ?_
  refine j_cVi (pc' := 451) m_L_56 (c_X6_plant hm hV.t hV.s hV.tl hV.sl) (by assumption) (by decide) rfl rfl rfl ⟨Nat.le_of_ble_eq_true rfl, Nat.le_of_ble_eq_true rfl⟩ ⟨Nat.le_of_ble_eq_true rfl, Nat.le_of_ble_eq_true rfl⟩ (Nat.le_of_ble_eq_true rfl) dL_law_448 rfl (fun x1 I1 hq => ?_)
  obtain ⟨rfl, rfl⟩ := hq
  refine j_eqI (mI_eta _ m) ?_
  first | refine j_icmp_eqN' (tgt := 838) (pc' := 454) (by with_reducible rfl) (by with_reducible rfl) (by omega) (by omega) dL_law_451 rfl (by decide) (fun c451 => ?_) (fun c451 => ?_) | refine j_icmp_eq (tgt := 838) (pc' := 454) dL_law_451 rfl (by decide) (fun c451 => ?_) (fun c451 => ?_)
  ·
    exact k _ _ _ _ _ _ (hJ.mono (by omega))
  ·
    exact absurd rfl c451
set_option maxRecDepth 100000 in
set_option maxHeartbeats 4000000 in
theorem st_ack {E : jx_E} {l : Launch} {n : Nat} {kd : jx_K} {R : jx_R} {I : jx_I} {d m B i : Nat} {y4 y5 y6 y7 : Option Value} (hdm : d + 344 ≤ m) (hJ : LJ kd R I d m B) (hB : B + 70000 < 2147483000) (hi4 : i + 4 ≤ scL E) (hL5 : scL E ≤ 2048) (k : ∀ (R1 : jx_R) (I1 : jx_I) (z4 z5 z6 z7 : Option Value), LJ kd R1 I1 d m (B + 60000) → jx_J E l cL_law 8 ret RL false room_1 351 13484 jx_QL 351 13484 n kd R1 I1 838 [some (.ref (scA E)), some (.ref d), some (.ref m), some (.int (nI i)), z4, z5, z6, z7] []) : jx_J E l cL_law 8 ret RL false room_1 351 13484 jx_QL 351 13484 n kd R I 456 [some (.ref (scA E)), some (.ref d), some (.ref m), some (.int (nI i)), y4, y5, y6, y7] [] := by
  obtain ⟨P, q, L, hs, hm, hM, hS, h3, h7⟩ := id hJ
  obtain ⟨kk, T, S, N, hA, hV, hN, hX⟩ := hM.2.2.1
  have hc4 := hM.2.1
  have h16 := hV.k16
  obtain ⟨rk, hrk⟩ := hV.r
  have Kd := hs.1
  have Km := hm.1
  refine j_aload_n (pc' := 457) dL_law_456 rfl rfl ?_
  refine j_aload_n (pc' := 458) dL_law_457 rfl rfl ?_
  refine j_iload_n (pc' := 459) dL_law_458 rfl rfl ?_
  refine j_iconst (pc' := 460) (v := nI 1) dL_law_459 rfl rfl ?_
  first | refine j_iaddN' (pc' := 461) (by with_reducible rfl) (by with_reducible rfl) dL_law_460 rfl ?_ | refine j_iadd (pc' := 461) dL_law_460 rfl ?_
  refine j_sld (pc' := 462) rfl (by omega) hL5 dL_law_461 rfl ?_
  refine j_cViR (pc' := 465) m_L_57 (c_X5_ack hs hM hA hV hN hX (by omega)) (by assumption) (by decide) rfl rfl rfl ⟨Nat.le_of_ble_eq_true rfl, Nat.le_of_ble_eq_true rfl⟩ ⟨Nat.le_of_ble_eq_true rfl, Nat.le_of_ble_eq_true rfl⟩ (Nat.le_of_ble_eq_true rfl) dL_law_462 rfl (fun x1 R1 I1 hq => ?_)
  obtain ⟨rfl, P1, g1, g2, g3, g4, g5⟩ := hq
  have em : ∀ z, m ≤ z → I1 z = I z := fun z hz => g2 z (by omega) (by omega) (by omega)
  refine j_eqI (mI_at em) ?_
  have hm1 := hm.cg g3 hdm
  have hS1 := hS.fr (fun z a b => g2 z (by omega) (by omega) (by omega))
  refine j_aload_n (pc' := 466) dL_law_465 rfl rfl ?_
  refine j_aload_n (pc' := 467) dL_law_466 rfl rfl ?_
  refine j_iload_n (pc' := 468) dL_law_467 rfl rfl ?_
  refine j_iconst (pc' := 469) (v := nI 1) dL_law_468 rfl rfl ?_
  first | refine j_iaddN' (pc' := 470) (by with_reducible rfl) (by with_reducible rfl) dL_law_469 rfl ?_ | refine j_iadd (pc' := 470) dL_law_469 rfl ?_
  refine j_sld (pc' := 471) rfl (by omega) hL5 dL_law_470 rfl ?_
  refine j_cVi (pc' := 474) m_L_60 (c_X6_ack hm1 hV.z h16 h3 hc4 hV.n (by omega)) (by assumption) (by decide) rfl rfl rfl ⟨Nat.le_of_ble_eq_true rfl, Nat.le_of_ble_eq_true rfl⟩ ⟨Nat.le_of_ble_eq_true rfl, Nat.le_of_ble_eq_true rfl⟩ (Nat.le_of_ble_eq_true rfl) dL_law_471 rfl (fun x1 I1 hq => ?_)
  obtain ⟨rfl, rfl⟩ := hq
  first | refine j_icmp_eqN' (tgt := 838) (pc' := 477) (by with_reducible rfl) (by with_reducible rfl) (by omega) (by omega) dL_law_474 rfl (by decide) (fun c474 => ?_) (fun c474 => ?_) | refine j_icmp_eq (tgt := 838) (pc' := 477) dL_law_474 rfl (by decide) (fun c474 => ?_) (fun c474 => ?_)
  ·
    exact k _ _ _ _ _ _ (LJ.A hdm g1 hm g3 g4 g5 (ie_ack hV) hS1 h3 h7)
  ·
    exact absurd rfl c474
set_option maxRecDepth 100000 in
set_option maxHeartbeats 4000000 in
theorem st_ackAll {E : jx_E} {l : Launch} {n : Nat} {kd : jx_K} {R : jx_R} {I : jx_I} {d m B i : Nat} {y4 y5 y6 y7 : Option Value} (hdm : d + 344 ≤ m) (hJ : LJ kd R I d m B) (hB : B + 70000 < 2147483000) (hi4 : i + 4 ≤ scL E) (hL5 : scL E ≤ 2048) (k : ∀ (R1 : jx_R) (I1 : jx_I) (z4 z5 z6 z7 : Option Value), LJ kd R1 I1 d m (B + 60000) → jx_J E l cL_law 8 ret RL false room_1 351 13484 jx_QL 351 13484 n kd R1 I1 838 [some (.ref (scA E)), some (.ref d), some (.ref m), some (.int (nI i)), z4, z5, z6, z7] []) : jx_J E l cL_law 8 ret RL false room_1 351 13484 jx_QL 351 13484 n kd R I 479 [some (.ref (scA E)), some (.ref d), some (.ref m), some (.int (nI i)), y4, y5, y6, y7] [] := by
  obtain ⟨P, q, L, hs, hm, hM, hS, h3, h7⟩ := id hJ
  obtain ⟨kk, T, S, N, hA, hV, hN, hX⟩ := hM.2.2.1
  have hc4 := hM.2.1
  have h16 := hV.k16
  obtain ⟨rk, hrk⟩ := hV.r
  have Kd := hs.1
  have Km := hm.1
  refine j_aload_n (pc' := 480) dL_law_479 rfl rfl ?_
  refine j_cViR (pc' := 483) m_L_61 (c_X5_ackAll (o := I (m + 4)) hs hM hA hV hN hX (by omega)) (by assumption) (by decide) rfl rfl rfl ⟨Nat.le_of_ble_eq_true rfl, Nat.le_of_ble_eq_true rfl⟩ ⟨Nat.le_of_ble_eq_true rfl, Nat.le_of_ble_eq_true rfl⟩ (Nat.le_of_ble_eq_true rfl) dL_law_480 rfl (fun x1 R1 I1 hq => ?_)
  obtain ⟨rfl, P1, g1, g2, g3, g4⟩ := hq
  have em : ∀ z, m ≤ z → I1 z = I z := fun z hz => g2 z (by omega) (by omega) (by omega)
  refine j_eqI (mI_at em) ?_
  have hm1 := hm.cg g3 hdm
  have hS1 := hS.fr (fun z a b => g2 z (by omega) (by omega) (by omega))
  refine j_aload_n (pc' := 484) dL_law_483 rfl rfl ?_
  refine j_cVi (pc' := 487) m_L_64 (c_X6_ackAll hm1 hV.z h16 hrk hV.n (by omega) h3 hc4) (by assumption) (by decide) rfl rfl rfl ⟨Nat.le_of_ble_eq_true rfl, Nat.le_of_ble_eq_true rfl⟩ ⟨Nat.le_of_ble_eq_true rfl, Nat.le_of_ble_eq_true rfl⟩ (Nat.le_of_ble_eq_true rfl) dL_law_484 rfl (fun x1 I1 hq => ?_)
  obtain ⟨rfl, rfl⟩ := hq
  first | refine j_icmp_eqN' (tgt := 838) (pc' := 490) (by with_reducible rfl) (by with_reducible rfl) (by omega) (by omega) dL_law_487 rfl (by decide) (fun c487 => ?_) (fun c487 => ?_) | refine j_icmp_eq (tgt := 838) (pc' := 490) dL_law_487 rfl (by decide) (fun c487 => ?_) (fun c487 => ?_)
  ·
    exact k _ _ _ _ _ _ (LJ.mk hdm g1 hm g3 (g4 _ eqR.r) hS1 ((pk_un (by decide)).trans pk_us) ((pk_un (by decide)).trans ((pk_un (by decide)).trans h7)))
  ·
    exact absurd rfl c487
set_option maxRecDepth 100000 in
set_option maxHeartbeats 4000000 in
theorem st_shelve {E : jx_E} {l : Launch} {n : Nat} {kd : jx_K} {R : jx_R} {I : jx_I} {d m B i : Nat} {y4 y5 y6 y7 : Option Value} (hdm : d + 344 ≤ m) (hJ : LJ kd R I d m B) (hB : B + 70000 < 2147483000) (hi4 : i + 4 ≤ scL E) (hL5 : scL E ≤ 2048) (k : ∀ (R1 : jx_R) (I1 : jx_I) (z4 z5 z6 z7 : Option Value), LJ kd R1 I1 d m (B + 60000) → jx_J E l cL_law 8 ret RL false room_1 351 13484 jx_QL 351 13484 n kd R1 I1 838 [some (.ref (scA E)), some (.ref d), some (.ref m), some (.int (nI i)), z4, z5, z6, z7] []) : jx_J E l cL_law 8 ret RL false room_1 351 13484 jx_QL 351 13484 n kd R I 492 [some (.ref (scA E)), some (.ref d), some (.ref m), some (.int (nI i)), y4, y5, y6, y7] [] := by
  obtain ⟨P, q, L, hs, hm, hM, hS, h3, h7⟩ := id hJ
  obtain ⟨kk, T, S, N, hA, hV, hN, hX⟩ := hM.2.2.1
  have hc4 := hM.2.1
  have h16 := hV.k16
  obtain ⟨rk, hrk⟩ := hV.r
  have Kd := hs.1
  have Km := hm.1
  refine j_aload_n (pc' := 493) dL_law_492 rfl rfl ?_
  refine j_aload_n (pc' := 494) dL_law_493 rfl rfl ?_
  refine j_iload_n (pc' := 495) dL_law_494 rfl rfl ?_
  refine j_iconst (pc' := 496) (v := nI 1) dL_law_495 rfl rfl ?_
  first | refine j_iaddN' (pc' := 497) (by with_reducible rfl) (by with_reducible rfl) dL_law_496 rfl ?_ | refine j_iadd (pc' := 497) dL_law_496 rfl ?_
  refine j_sld (pc' := 498) rfl (by omega) hL5 dL_law_497 rfl ?_
  refine j_aload_n (pc' := 499) dL_law_498 rfl rfl ?_
  refine j_iload_n (pc' := 500) dL_law_499 rfl rfl ?_
  refine j_iconst (pc' := 501) (v := nI 2) dL_law_500 rfl rfl ?_
  first | refine j_iaddN' (pc' := 502) (by with_reducible rfl) (by with_reducible rfl) dL_law_501 rfl ?_ | refine j_iadd (pc' := 502) dL_law_501 rfl ?_
  refine j_sld (pc' := 503) rfl (by omega) hL5 dL_law_502 rfl ?_
  refine j_cViR (pc' := 506) m_L_65 (c_X5_shelve hs hM hA hV hN hX (by omega)) (by assumption) (by decide) rfl rfl rfl ⟨Nat.le_of_ble_eq_true rfl, Nat.le_of_ble_eq_true rfl⟩ ⟨Nat.le_of_ble_eq_true rfl, Nat.le_of_ble_eq_true rfl⟩ (Nat.le_of_ble_eq_true rfl) dL_law_503 rfl (fun x1 R1 I1 hq => ?_)
  obtain ⟨rfl, P1, g1, g2, g3, g4, g5⟩ := hq
  have em : ∀ z, m ≤ z → I1 z = I z := fun z hz => g2 z (by omega) (by omega) (by omega)
  refine j_eqI (mI_at em) ?_
  have hm1 := hm.cg g3 hdm
  have hS1 := hS.fr (fun z a b => g2 z (by omega) (by omega) (by omega))
  refine j_aload_n (pc' := 507) dL_law_506 rfl rfl ?_
  refine j_aload_n (pc' := 508) dL_law_507 rfl rfl ?_
  refine j_iload_n (pc' := 509) dL_law_508 rfl rfl ?_
  refine j_iconst (pc' := 510) (v := nI 1) dL_law_509 rfl rfl ?_
  first | refine j_iaddN' (pc' := 511) (by with_reducible rfl) (by with_reducible rfl) dL_law_510 rfl ?_ | refine j_iadd (pc' := 511) dL_law_510 rfl ?_
  refine j_sld (pc' := 512) rfl (by omega) hL5 dL_law_511 rfl ?_
  refine j_aload_n (pc' := 513) dL_law_512 rfl rfl ?_
  refine j_iload_n (pc' := 514) dL_law_513 rfl rfl ?_
  refine j_iconst (pc' := 515) (v := nI 2) dL_law_514 rfl rfl ?_
  first | refine j_iaddN' (pc' := 516) (by with_reducible rfl) (by with_reducible rfl) dL_law_515 rfl ?_ | refine j_iadd (pc' := 516) dL_law_515 rfl ?_
  refine j_sld (pc' := 517) rfl (by omega) hL5 dL_law_516 rfl ?_
  refine j_cVi (pc' := 520) m_L_68 (c_X6_shelve hm1 hV.z h16 h3 hc4 hV.n (by omega)) (by assumption) (by decide) rfl rfl rfl ⟨Nat.le_of_ble_eq_true rfl, Nat.le_of_ble_eq_true rfl⟩ ⟨Nat.le_of_ble_eq_true rfl, Nat.le_of_ble_eq_true rfl⟩ (Nat.le_of_ble_eq_true rfl) dL_law_517 rfl (fun x1 I1 hq => ?_)
  obtain ⟨rfl, rfl⟩ := hq
  first | refine j_icmp_eqN' (tgt := 838) (pc' := 523) (by with_reducible rfl) (by with_reducible rfl) (by omega) (by omega) dL_law_520 rfl (by decide) (fun c520 => ?_) (fun c520 => ?_) | refine j_icmp_eq (tgt := 838) (pc' := 523) dL_law_520 rfl (by decide) (fun c520 => ?_) (fun c520 => ?_)
  ·
    exact k _ _ _ _ _ _ (LJ.A hdm g1 hm g3 g4 g5 (ie_shv hV) hS1 h3 h7)
  ·
    exact absurd rfl c520
set_option maxRecDepth 100000 in
set_option maxHeartbeats 4000000 in
theorem st_unshelve {E : jx_E} {l : Launch} {n : Nat} {kd : jx_K} {R : jx_R} {I : jx_I} {d m B i : Nat} {y4 y5 y6 y7 : Option Value} (hdm : d + 344 ≤ m) (hJ : LJ kd R I d m B) (hB : B + 70000 < 2147483000) (hi4 : i + 4 ≤ scL E) (hL5 : scL E ≤ 2048) (k : ∀ (R1 : jx_R) (I1 : jx_I) (z4 z5 z6 z7 : Option Value), LJ kd R1 I1 d m (B + 60000) → jx_J E l cL_law 8 ret RL false room_1 351 13484 jx_QL 351 13484 n kd R1 I1 838 [some (.ref (scA E)), some (.ref d), some (.ref m), some (.int (nI i)), z4, z5, z6, z7] []) : jx_J E l cL_law 8 ret RL false room_1 351 13484 jx_QL 351 13484 n kd R I 525 [some (.ref (scA E)), some (.ref d), some (.ref m), some (.int (nI i)), y4, y5, y6, y7] [] := by
  obtain ⟨P, q, L, hs, hm, hM, hS, h3, h7⟩ := id hJ
  obtain ⟨kk, T, S, N, hA, hV, hN, hX⟩ := hM.2.2.1
  have hc4 := hM.2.1
  have h16 := hV.k16
  obtain ⟨rk, hrk⟩ := hV.r
  have Kd := hs.1
  have Km := hm.1
  refine j_aload_n (pc' := 526) dL_law_525 rfl rfl ?_
  refine j_aload_n (pc' := 527) dL_law_526 rfl rfl ?_
  refine j_iload_n (pc' := 528) dL_law_527 rfl rfl ?_
  refine j_iconst (pc' := 529) (v := nI 1) dL_law_528 rfl rfl ?_
  first | refine j_iaddN' (pc' := 530) (by with_reducible rfl) (by with_reducible rfl) dL_law_529 rfl ?_ | refine j_iadd (pc' := 530) dL_law_529 rfl ?_
  refine j_sld (pc' := 531) rfl (by omega) hL5 dL_law_530 rfl ?_
  refine j_cViR (pc' := 534) m_L_69 (c_X5_unshelve hs hM hA hV hN hX (by omega)) (by assumption) (by decide) rfl rfl rfl ⟨Nat.le_of_ble_eq_true rfl, Nat.le_of_ble_eq_true rfl⟩ ⟨Nat.le_of_ble_eq_true rfl, Nat.le_of_ble_eq_true rfl⟩ (Nat.le_of_ble_eq_true rfl) dL_law_531 rfl (fun x1 R1 I1 hq => ?_)
  obtain ⟨rfl, P1, g1, g2, g3, g4, g5⟩ := hq
  have em : ∀ z, m ≤ z → I1 z = I z := fun z hz => g2 z (by omega) (by omega) (by omega)
  refine j_eqI (mI_at em) ?_
  have hm1 := hm.cg g3 hdm
  have hS1 := hS.fr (fun z a b => g2 z (by omega) (by omega) (by omega))
  refine j_aload_n (pc' := 535) dL_law_534 rfl rfl ?_
  refine j_aload_n (pc' := 536) dL_law_535 rfl rfl ?_
  refine j_iload_n (pc' := 537) dL_law_536 rfl rfl ?_
  refine j_iconst (pc' := 538) (v := nI 1) dL_law_537 rfl rfl ?_
  first | refine j_iaddN' (pc' := 539) (by with_reducible rfl) (by with_reducible rfl) dL_law_538 rfl ?_ | refine j_iadd (pc' := 539) dL_law_538 rfl ?_
  refine j_sld (pc' := 540) rfl (by omega) hL5 dL_law_539 rfl ?_
  refine j_cVi (pc' := 543) m_L_72 (c_X6_unshelve hm1 hV.z h16 h3 hc4 hV.n (by omega)) (by assumption) (by decide) rfl rfl rfl ⟨Nat.le_of_ble_eq_true rfl, Nat.le_of_ble_eq_true rfl⟩ ⟨Nat.le_of_ble_eq_true rfl, Nat.le_of_ble_eq_true rfl⟩ (Nat.le_of_ble_eq_true rfl) dL_law_540 rfl (fun x1 I1 hq => ?_)
  obtain ⟨rfl, rfl⟩ := hq
  first | refine j_icmp_eqN' (tgt := 838) (pc' := 546) (by with_reducible rfl) (by with_reducible rfl) (by omega) (by omega) dL_law_543 rfl (by decide) (fun c543 => ?_) (fun c543 => ?_) | refine j_icmp_eq (tgt := 838) (pc' := 546) dL_law_543 rfl (by decide) (fun c543 => ?_) (fun c543 => ?_)
  ·
    refine k _ _ _ _ _ _ (LJ.C hdm g1 hm g3 g4 g5 ?_ ?_ hS1 h3 h7)
    · exact fun hc => ⟨by
        rw [fUns, if_pos hc.1, if_neg hc.2]
        obtain ⟨w, hw, e⟩ := okP_nat hV.z h16 hc.1
        rw [e, nI_clamp (show w < 2147483648 from by omega)]
        obtain ⟨u, hu, e2⟩ := hV.un hw
        have hT1 := hV.tl
        rw [e2, hV.t]
        have e3 := pk_sub_toInt (a := u) (b := T) (by omega) (by omega)
        have e4 : (-20001 : Int32).toInt = -20001 := rfl
        simp only [Int32.le_iff_toInt_le]
        omega, rfl⟩
    · exact fun hc => by
        by_cases e : okP (I (m + 1)) (scX E (i + 1)) = true
        · have e2 := Decidable.byContradiction (fun z => hc ⟨e, z⟩)
          rw [fUns, if_pos e, if_pos e2]; exact ⟨show (-20002 : Int32) ≤ -20001 from by decide, rfl⟩
        · rw [fUns, if_neg e]; exact ⟨show (-20001 : Int32) ≤ -20001 from by decide, rfl⟩
  ·
    exact absurd rfl c543
set_option maxRecDepth 100000 in
set_option maxHeartbeats 4000000 in
theorem st_list {E : jx_E} {l : Launch} {n : Nat} {kd : jx_K} {R : jx_R} {I : jx_I} {d m B i : Nat} {y4 y5 y6 y7 : Option Value} (hdm : d + 344 ≤ m) (hJ : LJ kd R I d m B) (hB : B + 70000 < 2147483000) (hi4 : i + 4 ≤ scL E) (hL5 : scL E ≤ 2048) (k : ∀ (R1 : jx_R) (I1 : jx_I) (z4 z5 z6 z7 : Option Value), LJ kd R1 I1 d m (B + 60000) → jx_J E l cL_law 8 ret RL false room_1 351 13484 jx_QL 351 13484 n kd R1 I1 838 [some (.ref (scA E)), some (.ref d), some (.ref m), some (.int (nI i)), z4, z5, z6, z7] []) : jx_J E l cL_law 8 ret RL false room_1 351 13484 jx_QL 351 13484 n kd R I 548 [some (.ref (scA E)), some (.ref d), some (.ref m), some (.int (nI i)), y4, y5, y6, y7] [] := by
  obtain ⟨P, q, L, hs, hm, hM, hS, h3, h7⟩ := id hJ
  obtain ⟨kk, T, S, N, hA, hV, hN, hX⟩ := hM.2.2.1
  have hc4 := hM.2.1
  have h16 := hV.k16
  obtain ⟨rk, hrk⟩ := hV.r
  have Kd := hs.1
  have Km := hm.1
  refine j_aload_n (pc' := 549) dL_law_548 rfl rfl ?_
  refine j_aload_n (pc' := 550) dL_law_549 rfl rfl ?_
  refine j_iload_n (pc' := 551) dL_law_550 rfl rfl ?_
  refine j_iconst (pc' := 552) (v := nI 1) dL_law_551 rfl rfl ?_
  first | refine j_iaddN' (pc' := 553) (by with_reducible rfl) (by with_reducible rfl) dL_law_552 rfl ?_ | refine j_iadd (pc' := 553) dL_law_552 rfl ?_
  refine j_sld (pc' := 554) rfl (by omega) hL5 dL_law_553 rfl ?_
  refine j_cVi (pc' := 557) m_L_73 (c_X5_list hs hA hV (by omega)) (by assumption) (by decide) rfl rfl rfl ⟨Nat.le_of_ble_eq_true rfl, Nat.le_of_ble_eq_true rfl⟩ ⟨Nat.le_of_ble_eq_true rfl, Nat.le_of_ble_eq_true rfl⟩ (Nat.le_of_ble_eq_true rfl) dL_law_554 rfl (fun x1 I1 hq => ?_)
  obtain ⟨rfl, e6⟩ := hq
  have em : ∀ z, m ≤ z → I1 z = I z := fun z hz => e6 z (by omega)
  refine j_eqI (mI_at em) ?_
  rw [fList_cg (o' := I (m + 4))]
  refine j_aload_n (pc' := 558) dL_law_557 rfl rfl ?_
  refine j_aload_n (pc' := 559) dL_law_558 rfl rfl ?_
  refine j_iload_n (pc' := 560) dL_law_559 rfl rfl ?_
  refine j_iconst (pc' := 561) (v := nI 1) dL_law_560 rfl rfl ?_
  first | refine j_iaddN' (pc' := 562) (by with_reducible rfl) (by with_reducible rfl) dL_law_561 rfl ?_ | refine j_iadd (pc' := 562) dL_law_561 rfl ?_
  refine j_sld (pc' := 563) rfl (by omega) hL5 dL_law_562 rfl ?_
  refine j_cVi (pc' := 566) m_L_76 (c_X6_list hm hV.z h16 hrk) (by assumption) (by decide) rfl rfl rfl ⟨Nat.le_of_ble_eq_true rfl, Nat.le_of_ble_eq_true rfl⟩ ⟨Nat.le_of_ble_eq_true rfl, Nat.le_of_ble_eq_true rfl⟩ (Nat.le_of_ble_eq_true rfl) dL_law_563 rfl (fun x1 I1 hq => ?_)
  obtain ⟨rfl, rfl⟩ := hq
  first | refine j_icmp_eqN' (tgt := 838) (pc' := 569) (by with_reducible rfl) (by with_reducible rfl) (by omega) (by omega) dL_law_566 rfl (by decide) (fun c566 => ?_) (fun c566 => ?_) | refine j_icmp_eq (tgt := 838) (pc' := 569) dL_law_566 rfl (by decide) (fun c566 => ?_) (fun c566 => ?_)
  ·
    have hM1 := (hM.fr hs (I1 := I1) (fun z hz => e6 z (by omega))).mono (show B ≤ B + 60000 from by omega)
    have hS1 := hS.fr (I1 := I1) (fun z a b => e6 z (by omega))
    refine k _ _ _ _ _ _ ?_
    split
    · exact LJ.mk hdm hs hm rFr.r hM1 hS1 ((pk_un (by decide)).trans h3) ((pk_un (by decide)).trans h7)
    · exact LJ.mk hdm hs hm rFr.r hM1 hS1 h3 h7
  ·
    exact absurd rfl c566
set_option maxRecDepth 100000 in
set_option maxHeartbeats 4000000 in
theorem st_count {E : jx_E} {l : Launch} {n : Nat} {kd : jx_K} {R : jx_R} {I : jx_I} {d m B i : Nat} {y4 y5 y6 y7 : Option Value} (hdm : d + 344 ≤ m) (hJ : LJ kd R I d m B) (hB : B + 70000 < 2147483000) (hi4 : i + 4 ≤ scL E) (hL5 : scL E ≤ 2048) (k : ∀ (R1 : jx_R) (I1 : jx_I) (z4 z5 z6 z7 : Option Value), LJ kd R1 I1 d m (B + 60000) → jx_J E l cL_law 8 ret RL false room_1 351 13484 jx_QL 351 13484 n kd R1 I1 838 [some (.ref (scA E)), some (.ref d), some (.ref m), some (.int (nI i)), z4, z5, z6, z7] []) : jx_J E l cL_law 8 ret RL false room_1 351 13484 jx_QL 351 13484 n kd R I 571 [some (.ref (scA E)), some (.ref d), some (.ref m), some (.int (nI i)), y4, y5, y6, y7] [] := by
  obtain ⟨P, q, L, hs, hm, hM, hS, h3, h7⟩ := id hJ
  obtain ⟨kk, T, S, N, hA, hV, hN, hX⟩ := hM.2.2.1
  have hc4 := hM.2.1
  have h16 := hV.k16
  obtain ⟨rk, hrk⟩ := hV.r
  have Kd := hs.1
  have Km := hm.1
  refine j_aload_n (pc' := 572) dL_law_571 rfl rfl ?_
  refine j_aload_n (pc' := 573) dL_law_572 rfl rfl ?_
  refine j_iload_n (pc' := 574) dL_law_573 rfl rfl ?_
  refine j_iconst (pc' := 575) (v := nI 1) dL_law_574 rfl rfl ?_
  first | refine j_iaddN' (pc' := 576) (by with_reducible rfl) (by with_reducible rfl) dL_law_575 rfl ?_ | refine j_iadd (pc' := 576) dL_law_575 rfl ?_
  refine j_sld (pc' := 577) rfl (by omega) hL5 dL_law_576 rfl ?_
  refine j_cVi (pc' := 580) m_L_77 (c_X5_count hs hA hV (by omega)) (by assumption) (by decide) rfl rfl rfl ⟨Nat.le_of_ble_eq_true rfl, Nat.le_of_ble_eq_true rfl⟩ ⟨Nat.le_of_ble_eq_true rfl, Nat.le_of_ble_eq_true rfl⟩ (Nat.le_of_ble_eq_true rfl) dL_law_577 rfl (fun x1 I1 hq => ?_)
  obtain ⟨rfl, rfl⟩ := hq
  refine j_eqI (mI_eta _ m).symm ?_
  refine j_aload_n (pc' := 581) dL_law_580 rfl rfl ?_
  refine j_aload_n (pc' := 582) dL_law_581 rfl rfl ?_
  refine j_iload_n (pc' := 583) dL_law_582 rfl rfl ?_
  refine j_iconst (pc' := 584) (v := nI 1) dL_law_583 rfl rfl ?_
  first | refine j_iaddN' (pc' := 585) (by with_reducible rfl) (by with_reducible rfl) dL_law_584 rfl ?_ | refine j_iadd (pc' := 585) dL_law_584 rfl ?_
  refine j_sld (pc' := 586) rfl (by omega) hL5 dL_law_585 rfl ?_
  refine j_cVi (pc' := 589) m_L_80 (c_X6_count hm hV.z h16 hrk) (by assumption) (by decide) rfl rfl rfl ⟨Nat.le_of_ble_eq_true rfl, Nat.le_of_ble_eq_true rfl⟩ ⟨Nat.le_of_ble_eq_true rfl, Nat.le_of_ble_eq_true rfl⟩ (Nat.le_of_ble_eq_true rfl) dL_law_586 rfl (fun x1 I1 hq => ?_)
  obtain ⟨rfl, rfl⟩ := hq
  refine j_eqI (mI_eta _ m) ?_
  first | refine j_icmp_eqN' (tgt := 838) (pc' := 592) (by with_reducible rfl) (by with_reducible rfl) (by omega) (by omega) dL_law_589 rfl (by decide) (fun c589 => ?_) (fun c589 => ?_) | refine j_icmp_eq (tgt := 838) (pc' := 592) dL_law_589 rfl (by decide) (fun c589 => ?_) (fun c589 => ?_)
  ·
    exact k _ _ _ _ _ _ (hJ.mono (by omega))
  ·
    exact absurd rfl c589
set_option maxRecDepth 100000 in
set_option maxHeartbeats 4000000 in
theorem st_events {E : jx_E} {l : Launch} {n : Nat} {kd : jx_K} {R : jx_R} {I : jx_I} {d m B i : Nat} {y4 y5 y6 y7 : Option Value} (hdm : d + 344 ≤ m) (hJ : LJ kd R I d m B) (hB : B + 70000 < 2147483000) (hi4 : i + 4 ≤ scL E) (hL5 : scL E ≤ 2048) (k : ∀ (R1 : jx_R) (I1 : jx_I) (z4 z5 z6 z7 : Option Value), LJ kd R1 I1 d m (B + 60000) → jx_J E l cL_law 8 ret RL false room_1 351 13484 jx_QL 351 13484 n kd R1 I1 838 [some (.ref (scA E)), some (.ref d), some (.ref m), some (.int (nI i)), z4, z5, z6, z7] []) : jx_J E l cL_law 8 ret RL false room_1 351 13484 jx_QL 351 13484 n kd R I 594 [some (.ref (scA E)), some (.ref d), some (.ref m), some (.int (nI i)), y4, y5, y6, y7] [] := by
  obtain ⟨P, q, L, hs, hm, hM, hS, h3, h7⟩ := id hJ
  obtain ⟨kk, T, S, N, hA, hV, hN, hX⟩ := hM.2.2.1
  have hc4 := hM.2.1
  have h16 := hV.k16
  obtain ⟨rk, hrk⟩ := hV.r
  have Kd := hs.1
  have Km := hm.1
  refine j_aload_n (pc' := 595) dL_law_594 rfl rfl ?_
  refine j_cVi (pc' := 598) m_L_81 (c_X5_events hs hA hV (by omega)) (by assumption) (by decide) rfl rfl rfl ⟨Nat.le_of_ble_eq_true rfl, Nat.le_of_ble_eq_true rfl⟩ ⟨Nat.le_of_ble_eq_true rfl, Nat.le_of_ble_eq_true rfl⟩ (Nat.le_of_ble_eq_true rfl) dL_law_595 rfl (fun x1 I1 hq => ?_)
  obtain ⟨rfl, rfl⟩ := hq
  refine j_eqI (mI_eta _ m).symm ?_
  refine j_aload_n (pc' := 599) dL_law_598 rfl rfl ?_
  refine j_cVi (pc' := 602) m_L_84 (c_X6_events hm) (by assumption) (by decide) rfl rfl rfl ⟨Nat.le_of_ble_eq_true rfl, Nat.le_of_ble_eq_true rfl⟩ ⟨Nat.le_of_ble_eq_true rfl, Nat.le_of_ble_eq_true rfl⟩ (Nat.le_of_ble_eq_true rfl) dL_law_599 rfl (fun x1 I1 hq => ?_)
  obtain ⟨rfl, rfl⟩ := hq
  refine j_eqI (mI_eta _ m) ?_
  first | refine j_icmp_eqN' (tgt := 838) (pc' := 605) (by with_reducible rfl) (by with_reducible rfl) (by omega) (by omega) dL_law_602 rfl (by decide) (fun c602 => ?_) (fun c602 => ?_) | refine j_icmp_eq (tgt := 838) (pc' := 605) dL_law_602 rfl (by decide) (fun c602 => ?_) (fun c602 => ?_)
  ·
    exact k _ _ _ _ _ _ (hJ.mono (by omega))
  ·
    exact absurd rfl c602
set_option maxRecDepth 100000 in
set_option maxHeartbeats 4000000 in
theorem st_event {E : jx_E} {l : Launch} {n : Nat} {kd : jx_K} {R : jx_R} {I : jx_I} {d m B i : Nat} {y4 y5 y6 y7 : Option Value} (hdm : d + 344 ≤ m) (hJ : LJ kd R I d m B) (hB : B + 70000 < 2147483000) (hi4 : i + 4 ≤ scL E) (hL5 : scL E ≤ 2048) (k : ∀ (R1 : jx_R) (I1 : jx_I) (z4 z5 z6 z7 : Option Value), LJ kd R1 I1 d m (B + 60000) → jx_J E l cL_law 8 ret RL false room_1 351 13484 jx_QL 351 13484 n kd R1 I1 838 [some (.ref (scA E)), some (.ref d), some (.ref m), some (.int (nI i)), z4, z5, z6, z7] []) : jx_J E l cL_law 8 ret RL false room_1 351 13484 jx_QL 351 13484 n kd R I 607 [some (.ref (scA E)), some (.ref d), some (.ref m), some (.int (nI i)), y4, y5, y6, y7] [] := by
  obtain ⟨P, q, L, hs, hm, hM, hS, h3, h7⟩ := id hJ
  obtain ⟨kk, T, S, N, hA, hV, hN, hX⟩ := hM.2.2.1
  have hc4 := hM.2.1
  have h16 := hV.k16
  obtain ⟨rk, hrk⟩ := hV.r
  have Kd := hs.1
  have Km := hm.1
  refine j_aload_n (pc' := 608) dL_law_607 rfl rfl ?_
  refine j_aload_n (pc' := 609) dL_law_608 rfl rfl ?_
  refine j_iload_n (pc' := 610) dL_law_609 rfl rfl ?_
  refine j_iconst (pc' := 611) (v := nI 1) dL_law_610 rfl rfl ?_
  first | refine j_iaddN' (pc' := 612) (by with_reducible rfl) (by with_reducible rfl) dL_law_611 rfl ?_ | refine j_iadd (pc' := 612) dL_law_611 rfl ?_
  refine j_sld (pc' := 613) rfl (by omega) hL5 dL_law_612 rfl ?_
  refine j_aload_n (pc' := 614) dL_law_613 rfl rfl ?_
  refine j_iload_n (pc' := 615) dL_law_614 rfl rfl ?_
  refine j_iconst (pc' := 616) (v := nI 2) dL_law_615 rfl rfl ?_
  first | refine j_iaddN' (pc' := 617) (by with_reducible rfl) (by with_reducible rfl) dL_law_616 rfl ?_ | refine j_iadd (pc' := 617) dL_law_616 rfl ?_
  refine j_sld (pc' := 618) rfl (by omega) hL5 dL_law_617 rfl ?_
  refine j_cVi (pc' := 621) m_L_85 (c_X5_event hs hA hV (by omega)) (by assumption) (by decide) rfl rfl rfl ⟨Nat.le_of_ble_eq_true rfl, Nat.le_of_ble_eq_true rfl⟩ ⟨Nat.le_of_ble_eq_true rfl, Nat.le_of_ble_eq_true rfl⟩ (Nat.le_of_ble_eq_true rfl) dL_law_618 rfl (fun x1 I1 hq => ?_)
  obtain ⟨rfl, rfl⟩ := hq
  refine j_eqI (mI_eta _ m).symm ?_
  refine j_aload_n (pc' := 622) dL_law_621 rfl rfl ?_
  refine j_aload_n (pc' := 623) dL_law_622 rfl rfl ?_
  refine j_iload_n (pc' := 624) dL_law_623 rfl rfl ?_
  refine j_iconst (pc' := 625) (v := nI 1) dL_law_624 rfl rfl ?_
  first | refine j_iaddN' (pc' := 626) (by with_reducible rfl) (by with_reducible rfl) dL_law_625 rfl ?_ | refine j_iadd (pc' := 626) dL_law_625 rfl ?_
  refine j_sld (pc' := 627) rfl (by omega) hL5 dL_law_626 rfl ?_
  refine j_aload_n (pc' := 628) dL_law_627 rfl rfl ?_
  refine j_iload_n (pc' := 629) dL_law_628 rfl rfl ?_
  refine j_iconst (pc' := 630) (v := nI 2) dL_law_629 rfl rfl ?_
  first | refine j_iaddN' (pc' := 631) (by with_reducible rfl) (by with_reducible rfl) dL_law_630 rfl ?_ | refine j_iadd (pc' := 631) dL_law_630 rfl ?_
  refine j_sld (pc' := 632) rfl (by omega) hL5 dL_law_631 rfl ?_
  refine j_cVi (pc' := 635) m_L_88 (c_X6_event hm hV.n (by omega)) (by assumption) (by decide) rfl rfl rfl ⟨Nat.le_of_ble_eq_true rfl, Nat.le_of_ble_eq_true rfl⟩ ⟨Nat.le_of_ble_eq_true rfl, Nat.le_of_ble_eq_true rfl⟩ (Nat.le_of_ble_eq_true rfl) dL_law_632 rfl (fun x1 I1 hq => ?_)
  obtain ⟨rfl, rfl⟩ := hq
  refine j_eqI (mI_eta _ m) ?_
  first | refine j_icmp_eqN' (tgt := 838) (pc' := 638) (by with_reducible rfl) (by with_reducible rfl) (by omega) (by omega) dL_law_635 rfl (by decide) (fun c635 => ?_) (fun c635 => ?_) | refine j_icmp_eq (tgt := 838) (pc' := 638) dL_law_635 rfl (by decide) (fun c635 => ?_) (fun c635 => ?_)
  ·
    exact k _ _ _ _ _ _ (hJ.mono (by omega))
  ·
    exact absurd rfl c635
set_option maxRecDepth 100000 in
set_option maxHeartbeats 4000000 in
theorem st_meanAck {E : jx_E} {l : Launch} {n : Nat} {kd : jx_K} {R : jx_R} {I : jx_I} {d m B i : Nat} {y4 y5 y6 y7 : Option Value} (hdm : d + 344 ≤ m) (hJ : LJ kd R I d m B) (hB : B + 70000 < 2147483000) (hi4 : i + 4 ≤ scL E) (hL5 : scL E ≤ 2048) (k : ∀ (R1 : jx_R) (I1 : jx_I) (z4 z5 z6 z7 : Option Value), LJ kd R1 I1 d m (B + 60000) → jx_J E l cL_law 8 ret RL false room_1 351 13484 jx_QL 351 13484 n kd R1 I1 838 [some (.ref (scA E)), some (.ref d), some (.ref m), some (.int (nI i)), z4, z5, z6, z7] []) : jx_J E l cL_law 8 ret RL false room_1 351 13484 jx_QL 351 13484 n kd R I 640 [some (.ref (scA E)), some (.ref d), some (.ref m), some (.int (nI i)), y4, y5, y6, y7] [] := by
  obtain ⟨P, q, L, hs, hm, hM, hS, h3, h7⟩ := id hJ
  obtain ⟨kk, T, S, N, hA, hV, hN, hX⟩ := hM.2.2.1
  have hc4 := hM.2.1
  have h16 := hV.k16
  obtain ⟨rk, hrk⟩ := hV.r
  have Kd := hs.1
  have Km := hm.1
  refine j_aload_n (pc' := 641) dL_law_640 rfl rfl ?_
  refine j_cV0 (pc' := 644) m_L_89 (c_X5_meanAck hs hA hV (by omega)) (by assumption) (by decide) rfl rfl rfl ⟨Nat.le_of_ble_eq_true rfl, Nat.le_of_ble_eq_true rfl⟩ ⟨Nat.le_of_ble_eq_true rfl, Nat.le_of_ble_eq_true rfl⟩ (Nat.le_of_ble_eq_true rfl) dL_law_641 rfl (fun v1 I1 hq => ?_)
  obtain ⟨rfl, rfl⟩ := hq
  refine j_eqI (mI_eta _ m).symm ?_
  refine j_f2d (pc' := 645) dL_law_644 rfl (fq_d fMean_fin).1 ?_
  refine j_dstore (pc' := 647) (lv' := [_, _, _, _, _, _, _, _]) dL_law_645 rfl (by decide) rfl ?_
  refine j_aload_n (pc' := 648) dL_law_647 rfl rfl ?_
  refine j_cV0 (pc' := 651) m_L_93 (c_X6_meanAck hm) (by assumption) (by decide) rfl rfl rfl ⟨Nat.le_of_ble_eq_true rfl, Nat.le_of_ble_eq_true rfl⟩ ⟨Nat.le_of_ble_eq_true rfl, Nat.le_of_ble_eq_true rfl⟩ (Nat.le_of_ble_eq_true rfl) dL_law_648 rfl (fun v1 I1 hq => ?_)
  obtain ⟨rfl, rfl⟩ := hq
  refine j_eqI (mI_eta _ m) ?_
  refine j_f2d (pc' := 652) dL_law_651 rfl (fq_d fMean_fin).1 ?_
  refine j_dstore (pc' := 654) (lv' := [_, _, _, _, _, _, _, _]) dL_law_652 rfl (by decide) rfl ?_
  refine j_dload (pc' := 656) dL_law_654 rfl rfl ?_
  refine j_dload (pc' := 658) dL_law_656 rfl rfl ?_
  refine j_dcmp (pc' := 659) dL_law_658 rfl ?_
  rw [(fq_d fMean_fin).2]
  first | refine j_if_eqB' (tgt := 680) (pc' := 662) (by with_reducible rfl) dL_law_659 rfl (by decide) (fun c659 => ?_) (fun c659 => ?_) | refine j_if_eqN' (tgt := 680) (pc' := 662) (by with_reducible rfl) (by omega) dL_law_659 rfl (by decide) (fun c659 => ?_) (fun c659 => ?_) | refine j_if_eq (tgt := 680) (pc' := 662) dL_law_659 rfl (by decide) (fun c659 => ?_) (fun c659 => ?_)
  ·
    refine j_goto (tgt := 838) dL_law_680 (by decide) ?_
    exact k _ _ _ _ _ _ (hJ.mono (by omega))
  ·
    exact absurd rfl c659
set_option maxRecDepth 100000 in
set_option maxHeartbeats 4000000 in
theorem st_worst {E : jx_E} {l : Launch} {n : Nat} {kd : jx_K} {R : jx_R} {I : jx_I} {d m B i : Nat} {y4 y5 y6 y7 : Option Value} (hdm : d + 344 ≤ m) (hJ : LJ kd R I d m B) (hB : B + 70000 < 2147483000) (hi4 : i + 4 ≤ scL E) (hL5 : scL E ≤ 2048) (k : ∀ (R1 : jx_R) (I1 : jx_I) (z4 z5 z6 z7 : Option Value), LJ kd R1 I1 d m (B + 60000) → jx_J E l cL_law 8 ret RL false room_1 351 13484 jx_QL 351 13484 n kd R1 I1 838 [some (.ref (scA E)), some (.ref d), some (.ref m), some (.int (nI i)), z4, z5, z6, z7] []) : jx_J E l cL_law 8 ret RL false room_1 351 13484 jx_QL 351 13484 n kd R I 683 [some (.ref (scA E)), some (.ref d), some (.ref m), some (.int (nI i)), y4, y5, y6, y7] [] := by
  obtain ⟨P, q, L, hs, hm, hM, hS, h3, h7⟩ := id hJ
  obtain ⟨kk, T, S, N, hA, hV, hN, hX⟩ := hM.2.2.1
  have hc4 := hM.2.1
  have h16 := hV.k16
  obtain ⟨rk, hrk⟩ := hV.r
  have Kd := hs.1
  have Km := hm.1
  refine j_aload_n (pc' := 684) dL_law_683 rfl rfl ?_
  refine j_cVi (pc' := 687) m_L_94 (c_X5_worst hs hA hV (by omega)) (by assumption) (by decide) rfl rfl rfl ⟨Nat.le_of_ble_eq_true rfl, Nat.le_of_ble_eq_true rfl⟩ ⟨Nat.le_of_ble_eq_true rfl, Nat.le_of_ble_eq_true rfl⟩ (Nat.le_of_ble_eq_true rfl) dL_law_684 rfl (fun x1 I1 hq => ?_)
  obtain ⟨rfl, rfl⟩ := hq
  refine j_eqI (mI_eta _ m).symm ?_
  refine j_aload_n (pc' := 688) dL_law_687 rfl rfl ?_
  refine j_cVi (pc' := 691) m_L_97 (c_X6_worst hm hV.z h16 hV.n (by omega)) (by assumption) (by decide) rfl rfl rfl ⟨Nat.le_of_ble_eq_true rfl, Nat.le_of_ble_eq_true rfl⟩ ⟨Nat.le_of_ble_eq_true rfl, Nat.le_of_ble_eq_true rfl⟩ (Nat.le_of_ble_eq_true rfl) dL_law_688 rfl (fun x1 I1 hq => ?_)
  obtain ⟨rfl, rfl⟩ := hq
  refine j_eqI (mI_eta _ m) ?_
  first | refine j_icmp_eqN' (tgt := 838) (pc' := 694) (by with_reducible rfl) (by with_reducible rfl) (by omega) (by omega) dL_law_691 rfl (by decide) (fun c691 => ?_) (fun c691 => ?_) | refine j_icmp_eq (tgt := 838) (pc' := 694) dL_law_691 rfl (by decide) (fun c691 => ?_) (fun c691 => ?_)
  ·
    exact k _ _ _ _ _ _ (hJ.mono (by omega))
  ·
    exact absurd rfl c691
set_option maxRecDepth 100000 in
set_option maxHeartbeats 4000000 in
theorem st_replay {E : jx_E} {l : Launch} {n : Nat} {kd : jx_K} {R : jx_R} {I : jx_I} {d m B i : Nat} {y4 y5 y6 y7 : Option Value} (hdm : d + 344 ≤ m) (hJ : LJ kd R I d m B) (hB : B + 70000 < 2147483000) (hi4 : i + 4 ≤ scL E) (hL5 : scL E ≤ 2048) (k : ∀ (R1 : jx_R) (I1 : jx_I) (z4 z5 z6 z7 : Option Value), LJ kd R1 I1 d m (B + 60000) → jx_J E l cL_law 8 ret RL false room_1 351 13484 jx_QL 351 13484 n kd R1 I1 838 [some (.ref (scA E)), some (.ref d), some (.ref m), some (.int (nI i)), z4, z5, z6, z7] []) : jx_J E l cL_law 8 ret RL false room_1 351 13484 jx_QL 351 13484 n kd R I 696 [some (.ref (scA E)), some (.ref d), some (.ref m), some (.int (nI i)), y4, y5, y6, y7] [] := by
  obtain ⟨P, q, L, hs, hm, hM, hS, h3, h7⟩ := id hJ
  obtain ⟨kk, T, S, N, hA, hV, hN, hX⟩ := hM.2.2.1
  have hc4 := hM.2.1
  have h16 := hV.k16
  obtain ⟨rk, hrk⟩ := hV.r
  have Kd := hs.1
  have Km := hm.1
  refine j_aload_n (pc' := 697) dL_law_696 rfl rfl ?_
  refine j_aload_n (pc' := 698) dL_law_697 rfl rfl ?_
  refine j_iload_n (pc' := 699) dL_law_698 rfl rfl ?_
  refine j_iconst (pc' := 700) (v := nI 1) dL_law_699 rfl rfl ?_
  first | refine j_iaddN' (pc' := 701) (by with_reducible rfl) (by with_reducible rfl) dL_law_700 rfl ?_ | refine j_iadd (pc' := 701) dL_law_700 rfl ?_
  refine j_sld (pc' := 702) rfl (by omega) hL5 dL_law_701 rfl ?_
  refine j_aload_n (pc' := 703) dL_law_702 rfl rfl ?_
  refine j_iload_n (pc' := 704) dL_law_703 rfl rfl ?_
  refine j_iconst (pc' := 705) (v := nI 2) dL_law_704 rfl rfl ?_
  first | refine j_iaddN' (pc' := 706) (by with_reducible rfl) (by with_reducible rfl) dL_law_705 rfl ?_ | refine j_iadd (pc' := 706) dL_law_705 rfl ?_
  refine j_sld (pc' := 707) rfl (by omega) hL5 dL_law_706 rfl ?_
  refine j_cVi (pc' := 710) m_L_98 (c_X5_replay hs hA hV (by omega)) (by assumption) (by decide) rfl rfl rfl ⟨Nat.le_of_ble_eq_true rfl, Nat.le_of_ble_eq_true rfl⟩ ⟨Nat.le_of_ble_eq_true rfl, Nat.le_of_ble_eq_true rfl⟩ (Nat.le_of_ble_eq_true rfl) dL_law_707 rfl (fun x1 I1 hq => ?_)
  obtain ⟨rfl, rfl⟩ := hq
  refine j_eqI (mI_eta _ m).symm ?_
  refine j_aload_n (pc' := 711) dL_law_710 rfl rfl ?_
  refine j_aload_n (pc' := 712) dL_law_711 rfl rfl ?_
  refine j_iload_n (pc' := 713) dL_law_712 rfl rfl ?_
  refine j_iconst (pc' := 714) (v := nI 1) dL_law_713 rfl rfl ?_
  first | refine j_iaddN' (pc' := 715) (by with_reducible rfl) (by with_reducible rfl) dL_law_714 rfl ?_ | refine j_iadd (pc' := 715) dL_law_714 rfl ?_
  refine j_sld (pc' := 716) rfl (by omega) hL5 dL_law_715 rfl ?_
  refine j_aload_n (pc' := 717) dL_law_716 rfl rfl ?_
  refine j_iload_n (pc' := 718) dL_law_717 rfl rfl ?_
  refine j_iconst (pc' := 719) (v := nI 2) dL_law_718 rfl rfl ?_
  first | refine j_iaddN' (pc' := 720) (by with_reducible rfl) (by with_reducible rfl) dL_law_719 rfl ?_ | refine j_iadd (pc' := 720) dL_law_719 rfl ?_
  refine j_sld (pc' := 721) rfl (by omega) hL5 dL_law_720 rfl ?_
  refine j_cVi (pc' := 724) m_L_101 (c_X6_replay hm hV.z h16 hV.K5) (by assumption) (by decide) rfl rfl rfl ⟨Nat.le_of_ble_eq_true rfl, Nat.le_of_ble_eq_true rfl⟩ ⟨Nat.le_of_ble_eq_true rfl, Nat.le_of_ble_eq_true rfl⟩ (Nat.le_of_ble_eq_true rfl) dL_law_721 rfl (fun x1 I1 hq => ?_)
  obtain ⟨rfl, rfl⟩ := hq
  refine j_eqI (mI_eta _ m) ?_
  first | refine j_icmp_eqN' (tgt := 838) (pc' := 727) (by with_reducible rfl) (by with_reducible rfl) (by omega) (by omega) dL_law_724 rfl (by decide) (fun c724 => ?_) (fun c724 => ?_) | refine j_icmp_eq (tgt := 838) (pc' := 727) dL_law_724 rfl (by decide) (fun c724 => ?_) (fun c724 => ?_)
  ·
    exact k _ _ _ _ _ _ (hJ.mono (by omega))
  ·
    exact absurd rfl c724
set_option maxRecDepth 100000 in
set_option maxHeartbeats 4000000 in
theorem st_leastDeadband {E : jx_E} {l : Launch} {n : Nat} {kd : jx_K} {R : jx_R} {I : jx_I} {d m B i : Nat} {y4 y5 y6 y7 : Option Value} (hdm : d + 344 ≤ m) (hJ : LJ kd R I d m B) (hB : B + 70000 < 2147483000) (hi4 : i + 4 ≤ scL E) (hL5 : scL E ≤ 2048) (k : ∀ (R1 : jx_R) (I1 : jx_I) (z4 z5 z6 z7 : Option Value), LJ kd R1 I1 d m (B + 60000) → jx_J E l cL_law 8 ret RL false room_1 351 13484 jx_QL 351 13484 n kd R1 I1 838 [some (.ref (scA E)), some (.ref d), some (.ref m), some (.int (nI i)), z4, z5, z6, z7] []) : jx_J E l cL_law 8 ret RL false room_1 351 13484 jx_QL 351 13484 n kd R I 729 [some (.ref (scA E)), some (.ref d), some (.ref m), some (.int (nI i)), y4, y5, y6, y7] [] := by
  obtain ⟨P, q, L, hs, hm, hM, hS, h3, h7⟩ := id hJ
  obtain ⟨kk, T, S, N, hA, hV, hN, hX⟩ := hM.2.2.1
  have hc4 := hM.2.1
  have h16 := hV.k16
  obtain ⟨rk, hrk⟩ := hV.r
  have Kd := hs.1
  have Km := hm.1
  refine j_aload_n (pc' := 730) dL_law_729 rfl rfl ?_
  refine j_aload_n (pc' := 731) dL_law_730 rfl rfl ?_
  refine j_iload_n (pc' := 732) dL_law_731 rfl rfl ?_
  refine j_iconst (pc' := 733) (v := nI 1) dL_law_732 rfl rfl ?_
  first | refine j_iaddN' (pc' := 734) (by with_reducible rfl) (by with_reducible rfl) dL_law_733 rfl ?_ | refine j_iadd (pc' := 734) dL_law_733 rfl ?_
  refine j_sld (pc' := 735) rfl (by omega) hL5 dL_law_734 rfl ?_
  refine j_aload_n (pc' := 736) dL_law_735 rfl rfl ?_
  refine j_iload_n (pc' := 737) dL_law_736 rfl rfl ?_
  refine j_iconst (pc' := 738) (v := nI 2) dL_law_737 rfl rfl ?_
  first | refine j_iaddN' (pc' := 739) (by with_reducible rfl) (by with_reducible rfl) dL_law_738 rfl ?_ | refine j_iadd (pc' := 739) dL_law_738 rfl ?_
  refine j_sld (pc' := 740) rfl (by omega) hL5 dL_law_739 rfl ?_
  refine j_cVi (pc' := 743) m_L_102 (c_X5_leastDeadband hs hA hV (by omega)) (by assumption) (by decide) rfl rfl rfl ⟨Nat.le_of_ble_eq_true rfl, Nat.le_of_ble_eq_true rfl⟩ ⟨Nat.le_of_ble_eq_true rfl, Nat.le_of_ble_eq_true rfl⟩ (Nat.le_of_ble_eq_true rfl) dL_law_740 rfl (fun x1 I1 hq => ?_)
  obtain ⟨rfl, rfl⟩ := hq
  refine j_eqI (mI_eta _ m).symm ?_
  refine j_aload_n (pc' := 744) dL_law_743 rfl rfl ?_
  refine j_aload_n (pc' := 745) dL_law_744 rfl rfl ?_
  refine j_iload_n (pc' := 746) dL_law_745 rfl rfl ?_
  refine j_iconst (pc' := 747) (v := nI 1) dL_law_746 rfl rfl ?_
  first | refine j_iaddN' (pc' := 748) (by with_reducible rfl) (by with_reducible rfl) dL_law_747 rfl ?_ | refine j_iadd (pc' := 748) dL_law_747 rfl ?_
  refine j_sld (pc' := 749) rfl (by omega) hL5 dL_law_748 rfl ?_
  refine j_aload_n (pc' := 750) dL_law_749 rfl rfl ?_
  refine j_iload_n (pc' := 751) dL_law_750 rfl rfl ?_
  refine j_iconst (pc' := 752) (v := nI 2) dL_law_751 rfl rfl ?_
  first | refine j_iaddN' (pc' := 753) (by with_reducible rfl) (by with_reducible rfl) dL_law_752 rfl ?_ | refine j_iadd (pc' := 753) dL_law_752 rfl ?_
  refine j_sld (pc' := 754) rfl (by omega) hL5 dL_law_753 rfl ?_
  refine j_cVi (pc' := 757) m_L_105 (c_X6_leastDeadband hm hV.z h16 hV.K5) (by assumption) (by decide) rfl rfl rfl ⟨Nat.le_of_ble_eq_true rfl, Nat.le_of_ble_eq_true rfl⟩ ⟨Nat.le_of_ble_eq_true rfl, Nat.le_of_ble_eq_true rfl⟩ (Nat.le_of_ble_eq_true rfl) dL_law_754 rfl (fun x1 I1 hq => ?_)
  obtain ⟨rfl, rfl⟩ := hq
  refine j_eqI (mI_eta _ m) ?_
  first | refine j_icmp_eqN' (tgt := 838) (pc' := 760) (by with_reducible rfl) (by with_reducible rfl) (by omega) (by omega) dL_law_757 rfl (by decide) (fun c757 => ?_) (fun c757 => ?_) | refine j_icmp_eq (tgt := 838) (pc' := 760) dL_law_757 rfl (by decide) (fun c757 => ?_) (fun c757 => ?_)
  ·
    exact k _ _ _ _ _ _ (hJ.mono (by omega))
  ·
    exact absurd rfl c757
set_option maxRecDepth 100000 in
set_option maxHeartbeats 4000000 in
theorem st_type {E : jx_E} {l : Launch} {n : Nat} {kd : jx_K} {R : jx_R} {I : jx_I} {d m B i : Nat} {y4 y5 y6 y7 : Option Value} (hdm : d + 344 ≤ m) (hJ : LJ kd R I d m B) (hB : B + 70000 < 2147483000) (hi4 : i + 4 ≤ scL E) (hL5 : scL E ≤ 2048) (k : ∀ (R1 : jx_R) (I1 : jx_I) (z4 z5 z6 z7 : Option Value), LJ kd R1 I1 d m (B + 60000) → jx_J E l cL_law 8 ret RL false room_1 351 13484 jx_QL 351 13484 n kd R1 I1 838 [some (.ref (scA E)), some (.ref d), some (.ref m), some (.int (nI i)), z4, z5, z6, z7] []) : jx_J E l cL_law 8 ret RL false room_1 351 13484 jx_QL 351 13484 n kd R I 762 [some (.ref (scA E)), some (.ref d), some (.ref m), some (.int (nI i)), y4, y5, y6, y7] [] := by
  obtain ⟨P, q, L, hs, hm, hM, hS, h3, h7⟩ := id hJ
  obtain ⟨kk, T, S, N, hA, hV, hN, hX⟩ := hM.2.2.1
  have hc4 := hM.2.1
  have h16 := hV.k16
  obtain ⟨rk, hrk⟩ := hV.r
  have Kd := hs.1
  have Km := hm.1
  refine j_aload_n (pc' := 763) dL_law_762 rfl rfl ?_
  refine j_aload_n (pc' := 764) dL_law_763 rfl rfl ?_
  refine j_iload_n (pc' := 765) dL_law_764 rfl rfl ?_
  refine j_iconst (pc' := 766) (v := nI 1) dL_law_765 rfl rfl ?_
  first | refine j_iaddN' (pc' := 767) (by with_reducible rfl) (by with_reducible rfl) dL_law_766 rfl ?_ | refine j_iadd (pc' := 767) dL_law_766 rfl ?_
  refine j_sld (pc' := 768) rfl (by omega) hL5 dL_law_767 rfl ?_
  refine j_cVi (pc' := 771) m_L_106 (c_X5_type hs hS) (by assumption) (by decide) rfl rfl rfl ⟨Nat.le_of_ble_eq_true rfl, Nat.le_of_ble_eq_true rfl⟩ ⟨Nat.le_of_ble_eq_true rfl, Nat.le_of_ble_eq_true rfl⟩ (Nat.le_of_ble_eq_true rfl) dL_law_768 rfl (fun x1 I1 hq => ?_)
  obtain ⟨rfl, t1, e6⟩ := hq
  have em : ∀ z, m ≤ z → I1 z = I z := fun z hz => e6 z (by omega)
  refine j_eqI (mI_at em) ?_
  refine j_aload_n (pc' := 772) dL_law_771 rfl rfl ?_
  refine j_aload_n (pc' := 773) dL_law_772 rfl rfl ?_
  refine j_iload_n (pc' := 774) dL_law_773 rfl rfl ?_
  refine j_iconst (pc' := 775) (v := nI 1) dL_law_774 rfl rfl ?_
  first | refine j_iaddN' (pc' := 776) (by with_reducible rfl) (by with_reducible rfl) dL_law_775 rfl ?_ | refine j_iadd (pc' := 776) dL_law_775 rfl ?_
  refine j_sld (pc' := 777) rfl (by omega) hL5 dL_law_776 rfl ?_
  refine j_cVi (pc' := 780) m_L_109 (c_X6_type hm h7 hS.2.2) (by assumption) (by decide) rfl rfl rfl ⟨Nat.le_of_ble_eq_true rfl, Nat.le_of_ble_eq_true rfl⟩ ⟨Nat.le_of_ble_eq_true rfl, Nat.le_of_ble_eq_true rfl⟩ (Nat.le_of_ble_eq_true rfl) dL_law_777 rfl (fun x1 I1 hq => ?_)
  obtain ⟨rfl, rfl⟩ := hq
  first | refine j_icmp_eqN' (tgt := 838) (pc' := 783) (by with_reducible rfl) (by with_reducible rfl) (by omega) (by omega) dL_law_780 rfl (by decide) (fun c780 => ?_) (fun c780 => ?_) | refine j_icmp_eq (tgt := 838) (pc' := 783) dL_law_780 rfl (by decide) (fun c780 => ?_) (fun c780 => ?_)
  ·
    have hM1 := (hM.fr hs (I1 := I1) (fun z hz => e6 z (by omega))).mono (show B ≤ B + 60000 from by omega)
    refine k _ _ _ _ _ _ ?_
    split at t1
    · rename_i hc
      rw [if_pos hc]
      exact LJ.mk hdm hs hm rFr.r hM1 t1 ((pk_un (by decide)).trans h3) pk_us
    · rename_i hc
      rw [if_neg hc]
      exact LJ.mk hdm hs hm rFr.r hM1 t1 h3 h7
  ·
    exact absurd rfl c780
set_option maxRecDepth 100000 in
set_option maxHeartbeats 4000000 in
theorem st_clear {E : jx_E} {l : Launch} {n : Nat} {kd : jx_K} {R : jx_R} {I : jx_I} {d m B i : Nat} {y4 y5 y6 y7 : Option Value} (hdm : d + 344 ≤ m) (hJ : LJ kd R I d m B) (hB : B + 70000 < 2147483000) (hi4 : i + 4 ≤ scL E) (hL5 : scL E ≤ 2048) (k : ∀ (R1 : jx_R) (I1 : jx_I) (z4 z5 z6 z7 : Option Value), LJ kd R1 I1 d m (B + 60000) → jx_J E l cL_law 8 ret RL false room_1 351 13484 jx_QL 351 13484 n kd R1 I1 838 [some (.ref (scA E)), some (.ref d), some (.ref m), some (.int (nI i)), z4, z5, z6, z7] []) : jx_J E l cL_law 8 ret RL false room_1 351 13484 jx_QL 351 13484 n kd R I 785 [some (.ref (scA E)), some (.ref d), some (.ref m), some (.int (nI i)), y4, y5, y6, y7] [] := by
  obtain ⟨P, q, L, hs, hm, hM, hS, h3, h7⟩ := id hJ
  obtain ⟨kk, T, S, N, hA, hV, hN, hX⟩ := hM.2.2.1
  have hc4 := hM.2.1
  have h16 := hV.k16
  obtain ⟨rk, hrk⟩ := hV.r
  have Kd := hs.1
  have Km := hm.1
  refine j_aload_n (pc' := 786) dL_law_785 rfl rfl ?_
  refine j_cVi (pc' := 789) m_L_110 (c_X5_clear hs hS) (by assumption) (by decide) rfl rfl rfl ⟨Nat.le_of_ble_eq_true rfl, Nat.le_of_ble_eq_true rfl⟩ ⟨Nat.le_of_ble_eq_true rfl, Nat.le_of_ble_eq_true rfl⟩ (Nat.le_of_ble_eq_true rfl) dL_law_786 rfl (fun x1 I1 hq => ?_)
  obtain ⟨rfl, t1, e6⟩ := hq
  have em : ∀ z, m ≤ z → I1 z = I z := fun z hz => e6 z (by omega)
  refine j_eqI (mI_at em) ?_
  refine j_aload_n (pc' := 790) dL_law_789 rfl rfl ?_
  refine j_cVi (pc' := 793) m_L_113 (c_X6_clear hm) (by assumption) (by decide) rfl rfl rfl ⟨Nat.le_of_ble_eq_true rfl, Nat.le_of_ble_eq_true rfl⟩ ⟨Nat.le_of_ble_eq_true rfl, Nat.le_of_ble_eq_true rfl⟩ (Nat.le_of_ble_eq_true rfl) dL_law_790 rfl (fun x1 I1 hq => ?_)
  obtain ⟨rfl, rfl⟩ := hq
  rw [h7]
  first | refine j_icmp_eqN' (tgt := 838) (pc' := 796) (by with_reducible rfl) (by with_reducible rfl) (by omega) (by omega) dL_law_793 rfl (by decide) (fun c793 => ?_) (fun c793 => ?_) | refine j_icmp_eq (tgt := 838) (pc' := 796) dL_law_793 rfl (by decide) (fun c793 => ?_) (fun c793 => ?_)
  ·
    have hM1 := (hM.fr hs (I1 := I1) (fun z hz => e6 z (by omega))).mono (show B ≤ B + 60000 from by omega)
    exact k _ _ _ _ _ _ (LJ.mk hdm hs hm rFr.r hM1 t1 ((pk_un (by decide)).trans h3) pk_us)
  ·
    exact absurd rfl c793
set_option maxRecDepth 100000 in
set_option maxHeartbeats 4000000 in
theorem st_run {E : jx_E} {l : Launch} {n : Nat} {kd : jx_K} {R : jx_R} {I : jx_I} {d m B i : Nat} {y4 y5 y6 y7 : Option Value} (hdm : d + 344 ≤ m) (hJ : LJ kd R I d m B) (hB : B + 70000 < 2147483000) (hi4 : i + 4 ≤ scL E) (hL5 : scL E ≤ 2048) (k : ∀ (R1 : jx_R) (I1 : jx_I) (z4 z5 z6 z7 : Option Value), LJ kd R1 I1 d m (B + 60000) → jx_J E l cL_law 8 ret RL false room_1 351 13484 jx_QL 351 13484 n kd R1 I1 838 [some (.ref (scA E)), some (.ref d), some (.ref m), some (.int (nI i)), z4, z5, z6, z7] []) : jx_J E l cL_law 8 ret RL false room_1 351 13484 jx_QL 351 13484 n kd R I 798 [some (.ref (scA E)), some (.ref d), some (.ref m), some (.int (nI i)), y4, y5, y6, y7] [] := by
  obtain ⟨P, q, L, hs, hm, hM, hS, h3, h7⟩ := id hJ
  obtain ⟨kk, T, S, N, hA, hV, hN, hX⟩ := hM.2.2.1
  have hc4 := hM.2.1
  have h16 := hV.k16
  obtain ⟨rk, hrk⟩ := hV.r
  have Kd := hs.1
  have Km := hm.1
  refine j_aload_n (pc' := 799) dL_law_798 rfl rfl ?_
  refine j_cViR (pc' := 802) m_L_114 (c_X5_run (c := I (m + 6)) hs hM hA hV hN hX (by omega) hS) (by assumption) (by decide) rfl rfl rfl ⟨Nat.le_of_ble_eq_true rfl, Nat.le_of_ble_eq_true rfl⟩ ⟨Nat.le_of_ble_eq_true rfl, Nat.le_of_ble_eq_true rfl⟩ (Nat.le_of_ble_eq_true rfl) dL_law_799 rfl (fun x1 R1 I1 hq => ?_)
  obtain ⟨rfl, P1, L1, g1, g3, g2, g5, g6⟩ := hq
  have em : ∀ z, m ≤ z → I1 z = I z := fun z hz => g2 z (by omega)
  refine j_eqI (mI_at em) ?_
  have hm1 := hm.cg g3 hdm
  refine j_aload_n (pc' := 803) dL_law_802 rfl rfl ?_
  refine j_cVi (pc' := 806) m_L_117 (c_X6_run hm1 h7 hS.2.2 h3 hc4 hV (by omega)) (by assumption) (by decide) rfl rfl rfl ⟨Nat.le_of_ble_eq_true rfl, Nat.le_of_ble_eq_true rfl⟩ ⟨Nat.le_of_ble_eq_true rfl, Nat.le_of_ble_eq_true rfl⟩ (Nat.le_of_ble_eq_true rfl) dL_law_803 rfl (fun x1 I1 hq => ?_)
  obtain ⟨rfl, rfl⟩ := hq
  first | refine j_icmp_eqN' (tgt := 838) (pc' := 809) (by with_reducible rfl) (by with_reducible rfl) (by omega) (by omega) dL_law_806 rfl (by decide) (fun c806 => ?_) (fun c806 => ?_) | refine j_icmp_eq (tgt := 838) (pc' := 809) dL_law_806 rfl (by decide) (fun c806 => ?_) (fun c806 => ?_)
  ·
    refine k _ _ _ _ _ _ ?_
    by_cases hr : (rdS (I (m + 5)) L 15 0 0 (I (m + 6))).1 = true
    · rw [if_pos hr] at g6 ⊢
      revert g6
      cases (rnS (rdS (I (m + 5)) L 15 0 0 (I (m + 6))).2.2.2 (rdS (I (m + 5)) L 15 0 0 (I (m + 6))).2.2.1 0 (I (m + 1))).1 with
      | none =>
        rintro ⟨rfl, g7⟩
        exact LJ.mk hdm g1 hm g3 (g7 _ eqR_cp) g5 ((pk_un (by decide)).trans pk_us) pk_us
      | some j =>
        rintro ⟨rfl, g7⟩
        exact LJ.mk hdm g1 hm g3 (g7.cgw (fun j hj => (eqR_cp j hj).trans (eqR_cp j hj))) g5 ((pk_un (by decide)).trans ((pk_un (by decide)).trans h3)) ((pk_un (by decide)).trans ((pk_un (by decide)).trans h7))
    · rw [if_neg hr] at g6 ⊢
      obtain ⟨rfl, g7⟩ := g6
      exact LJ.mk hdm g1 hm g3 g7 g5 ((pk_un (by decide)).trans ((pk_un (by decide)).trans h3)) ((pk_un (by decide)).trans ((pk_un (by decide)).trans h7))
  ·
    exact absurd rfl c806
set_option maxRecDepth 100000 in
set_option maxHeartbeats 4000000 in
theorem st_undo {E : jx_E} {l : Launch} {n : Nat} {kd : jx_K} {R : jx_R} {I : jx_I} {d m B i : Nat} {y4 y5 y6 y7 : Option Value} (hdm : d + 344 ≤ m) (hJ : LJ kd R I d m B) (hB : B + 70000 < 2147483000) (hi4 : i + 4 ≤ scL E) (hL5 : scL E ≤ 2048) (k : ∀ (R1 : jx_R) (I1 : jx_I) (z4 z5 z6 z7 : Option Value), LJ kd R1 I1 d m (B + 60000) → jx_J E l cL_law 8 ret RL false room_1 351 13484 jx_QL 351 13484 n kd R1 I1 838 [some (.ref (scA E)), some (.ref d), some (.ref m), some (.int (nI i)), z4, z5, z6, z7] []) : jx_J E l cL_law 8 ret RL false room_1 351 13484 jx_QL 351 13484 n kd R I 811 [some (.ref (scA E)), some (.ref d), some (.ref m), some (.int (nI i)), y4, y5, y6, y7] [] := by
  obtain ⟨P, q, L, hs, hm, hM, hS, h3, h7⟩ := id hJ
  obtain ⟨kk, T, S, N, hA, hV, hN, hX⟩ := hM.2.2.1
  have hc4 := hM.2.1
  have h16 := hV.k16
  obtain ⟨rk, hrk⟩ := hV.r
  have Kd := hs.1
  have Km := hm.1
  refine j_aload_n (pc' := 812) dL_law_811 rfl rfl ?_
  refine j_cViR (pc' := 815) m_L_118 (c_X5_undo hs hM) (by assumption) (by decide) rfl rfl rfl ⟨Nat.le_of_ble_eq_true rfl, Nat.le_of_ble_eq_true rfl⟩ ⟨Nat.le_of_ble_eq_true rfl, Nat.le_of_ble_eq_true rfl⟩ (Nat.le_of_ble_eq_true rfl) dL_law_812 rfl (fun x1 R1 I1 hq => ?_)
  obtain ⟨rfl, P1, g1, g2, g3, g4, g5⟩ := hq
  have em : ∀ z, m ≤ z → I1 z = I z := fun z hz => g2 z (by omega) (by omega) (by omega)
  refine j_eqI (mI_at em) ?_
  have hm1 := hm.cg g3 hdm
  have hS1 := hS.fr (fun z a b => g2 z (by omega) (by omega) (by omega))
  refine j_aload_n (pc' := 816) dL_law_815 rfl rfl ?_
  refine j_cVi (pc' := 819) m_L_121 (c_X6_undo hm1 h3 hc4) (by assumption) (by decide) rfl rfl rfl ⟨Nat.le_of_ble_eq_true rfl, Nat.le_of_ble_eq_true rfl⟩ ⟨Nat.le_of_ble_eq_true rfl, Nat.le_of_ble_eq_true rfl⟩ (Nat.le_of_ble_eq_true rfl) dL_law_816 rfl (fun x1 I1 hq => ?_)
  obtain ⟨rfl, rfl⟩ := hq
  first | refine j_icmp_eqN' (tgt := 838) (pc' := 822) (by with_reducible rfl) (by with_reducible rfl) (by omega) (by omega) dL_law_819 rfl (by decide) (fun c819 => ?_) (fun c819 => ?_) | refine j_icmp_eq (tgt := 838) (pc' := 822) dL_law_819 rfl (by decide) (fun c819 => ?_) (fun c819 => ?_)
  ·
    refine k _ _ _ _ _ _ ?_
    split
    · rename_i e
      exact (LJ.mk hdm g1 hm g3 (g4 e) hS1 h3 h7).mono (by omega)
    · rename_i e
      exact (LJ.mk hdm g1 hm g3 (g5 e) hS1 pk_us ((pk_un (by decide)).trans h7)).mono (by omega)
  ·
    exact absurd rfl c819
set_option maxRecDepth 100000 in
set_option maxHeartbeats 4000000 in
theorem st_fingerprint {E : jx_E} {l : Launch} {n : Nat} {kd : jx_K} {R : jx_R} {I : jx_I} {d m B i : Nat} {y4 y5 y6 y7 : Option Value} (hdm : d + 344 ≤ m) (hJ : LJ kd R I d m B) (hB : B + 70000 < 2147483000) (hi4 : i + 4 ≤ scL E) (hL5 : scL E ≤ 2048) (k : ∀ (R1 : jx_R) (I1 : jx_I) (z4 z5 z6 z7 : Option Value), LJ kd R1 I1 d m (B + 60000) → jx_J E l cL_law 8 ret RL false room_1 351 13484 jx_QL 351 13484 n kd R1 I1 838 [some (.ref (scA E)), some (.ref d), some (.ref m), some (.int (nI i)), z4, z5, z6, z7] []) : jx_J E l cL_law 8 ret RL false room_1 351 13484 jx_QL 351 13484 n kd R I 824 [some (.ref (scA E)), some (.ref d), some (.ref m), some (.int (nI i)), y4, y5, y6, y7] [] := by
  obtain ⟨P, q, L, hs, hm, hM, hS, h3, h7⟩ := id hJ
  obtain ⟨kk, T, S, N, hA, hV, hN, hX⟩ := hM.2.2.1
  have hc4 := hM.2.1
  have h16 := hV.k16
  obtain ⟨rk, hrk⟩ := hV.r
  have Kd := hs.1
  have Km := hm.1
  refine j_aload_n (pc' := 825) dL_law_824 rfl rfl ?_
  refine j_cV0 (pc' := 828) m_L_122 (c_X5_fingerprint hs hA hV (by omega)) (by assumption) (by decide) rfl rfl rfl ⟨Nat.le_of_ble_eq_true rfl, Nat.le_of_ble_eq_true rfl⟩ ⟨Nat.le_of_ble_eq_true rfl, Nat.le_of_ble_eq_true rfl⟩ (Nat.le_of_ble_eq_true rfl) dL_law_825 rfl (fun v1 I1 hq => ?_)
  obtain ⟨rfl, rfl⟩ := hq
  refine j_eqI (mI_eta _ m).symm ?_
  refine j_aload_n (pc' := 829) dL_law_828 rfl rfl ?_
  refine j_cV0 (pc' := 832) m_L_126 (c_X6_fingerprint hm hV (by omega)) (by assumption) (by decide) rfl rfl rfl ⟨Nat.le_of_ble_eq_true rfl, Nat.le_of_ble_eq_true rfl⟩ ⟨Nat.le_of_ble_eq_true rfl, Nat.le_of_ble_eq_true rfl⟩ (Nat.le_of_ble_eq_true rfl) dL_law_829 rfl (fun v1 I1 hq => ?_)
  obtain ⟨rfl, rfl⟩ := hq
  refine j_eqI (mI_eta _ m) ?_
  refine j_lcmp (pc' := 833) dL_law_832 rfl ?_
  rw [lg_self]
  first | refine j_if_eqB' (tgt := 838) (pc' := 836) (by with_reducible rfl) dL_law_833 rfl (by decide) (fun c833 => ?_) (fun c833 => ?_) | refine j_if_eqN' (tgt := 838) (pc' := 836) (by with_reducible rfl) (by omega) dL_law_833 rfl (by decide) (fun c833 => ?_) (fun c833 => ?_) | refine j_if_eq (tgt := 838) (pc' := 836) dL_law_833 rfl (by decide) (fun c833 => ?_) (fun c833 => ?_)
  ·
    exact k _ _ _ _ _ _ (hJ.mono (by omega))
  ·
    exact absurd rfl c833
