set_option maxRecDepth 100000 in
set_option maxHeartbeats 4000000 in
theorem c_L_acksF {E : jx_E} {l : Launch} {n : Nat} {kd : jx_K} {R : jx_R} {I : jx_I} {d : Nat} {v p : Nat → Int32} {q B k T S N : Nat} {i : Nat} (hD : DK kd R I d v p q B) (hV : VI v k T S N) (hN : N ≤ B) (hB : B + 4000000 < 2147483000) (hP : PI v k T) (hi : i < k) : jx_CiR E l yL_acks cL_acks 9 (some .boolean) 7 n kd R I [.ref d, .int (nI i), .int (nI 0)] (fun r R' I' => r = nI 1 ∧ LZ kd R' I' d k T (B + 200000)) := by
  have h16 := hV.k16
  have Kd := hD.k5
  have h10 : ¬ v (176 + 56 * i + 10) = 0 → v (176 + 56 * i + 10) = nI 1 := by
    intro c
    obtain ⟨b, hb⟩ := hV.ak hi
    cases b with
    | true => exact hb
    | false => exact absurd hb c
  have hsub : (-20001 : Int32) < v 1 - v (176 + 56 * i + 12) := by
    obtain ⟨l, hl, e⟩ := hV.la hi
    have := hV.tl
    rw [e, hV.t, pk_sub hl]
    exact ie_n (by omega)
  refine jx_CtR.ofJ RL [some (.ref d), some (.int (nI i)), some (.int (nI 0)), none, none, none, none, none, none] (by decide) rfl rfl (Nat.le_of_ble_eq_true rfl) rfl ?_
  refine j_aload_n (pc' := 1) dL_acks_0 rfl rfl ?_
  refine j_cV0 (pc' := 4) m_L_9 (p_fingerprint hD hV (by omega) (by omega)) Kd (by decide) rfl rfl rfl ⟨Nat.le_of_ble_eq_true rfl, Nat.le_of_ble_eq_true rfl⟩ ⟨Nat.le_of_ble_eq_true rfl, Nat.le_of_ble_eq_true rfl⟩ (Nat.le_of_ble_eq_true rfl) dL_acks_1 rfl (fun v1 J1 hq => ?_)
  obtain ⟨hx, hI⟩ := hq
  rw [hx, hI]
  refine j_lstore_n (pc' := 5) (lv' := [_, _, _, _, _, _, _, _, _]) dL_acks_4 rfl (by decide) rfl ?_
  refine j_aload_n (pc' := 6) dL_acks_5 rfl rfl ?_
  refine j_cVi (pc' := 9) m_L_65 (p_events hD hV (by omega) (by omega) (a := nI N) (hV.n)) Kd (by decide) rfl rfl rfl ⟨Nat.le_of_ble_eq_true rfl, Nat.le_of_ble_eq_true rfl⟩ ⟨Nat.le_of_ble_eq_true rfl, Nat.le_of_ble_eq_true rfl⟩ (Nat.le_of_ble_eq_true rfl) dL_acks_6 rfl (fun x1 J1 hq => ?_)
  obtain ⟨hx, hI⟩ := hq
  rw [hx, hI]
  refine j_istore (pc' := 11) (lv' := [_, _, _, _, _, _, _, _, _]) dL_acks_9 rfl (by decide) rfl ?_
  refine j_iload_n (pc' := 12) dL_acks_11 rfl rfl ?_
  refine j_ifT_eq (tgt := 132) (by decide) dL_acks_12 (by decide) ?_
  refine j_aload_n (pc' := 133) dL_acks_132 rfl rfl ?_
  refine j_iconst (pc' := 134) (v := nI 0) dL_acks_133 rfl rfl ?_
  refine j_cVi (pc' := 137) m_L_44 (p_plant hD hV (by omega) (by omega) (a := v 1) (fPl_0)) Kd (by decide) rfl rfl rfl ⟨Nat.le_of_ble_eq_true rfl, Nat.le_of_ble_eq_true rfl⟩ ⟨Nat.le_of_ble_eq_true rfl, Nat.le_of_ble_eq_true rfl⟩ (Nat.le_of_ble_eq_true rfl) dL_acks_134 rfl (fun x1 J1 hq => ?_)
  obtain ⟨hx, hI⟩ := hq
  rw [hx, hI]
  refine j_aload_n (pc' := 138) dL_acks_137 rfl rfl ?_
  refine j_iload_n (pc' := 139) dL_acks_138 rfl rfl ?_
  refine j_bipush (pc' := 141) (v := nI 12) dL_acks_139 rfl rfl ?_
  refine j_cVi (pc' := 144) m_L_31 (p_point hD hV (by omega) (by omega) (a := v (176 + 56 * i + 12)) ((fPt_w hV.z h16 hi (show 12 < 15 from by omega)))) Kd (by decide) rfl rfl rfl ⟨Nat.le_of_ble_eq_true rfl, Nat.le_of_ble_eq_true rfl⟩ ⟨Nat.le_of_ble_eq_true rfl, Nat.le_of_ble_eq_true rfl⟩ (Nat.le_of_ble_eq_true rfl) dL_acks_141 rfl (fun x1 J1 hq => ?_)
  obtain ⟨hx, hI⟩ := hq
  rw [hx, hI]
  refine j_isub (pc' := 145) dL_acks_144 rfl ?_
  refine j_istore (pc' := 147) (lv' := [_, _, _, _, _, _, _, _, _]) dL_acks_145 rfl (by decide) rfl ?_
  refine j_aload_n (pc' := 148) dL_acks_147 rfl rfl ?_
  refine j_iload_n (pc' := 149) dL_acks_148 rfl rfl ?_
  refine j_bipush (pc' := 151) (v := nI 10) dL_acks_149 rfl rfl ?_
  refine j_cVi (pc' := 154) m_L_31 (p_point hD hV (by omega) (by omega) (a := v (176 + 56 * i + 10)) ((fPt_w hV.z h16 hi (show 10 < 15 from by omega)))) Kd (by decide) rfl rfl rfl ⟨Nat.le_of_ble_eq_true rfl, Nat.le_of_ble_eq_true rfl⟩ ⟨Nat.le_of_ble_eq_true rfl, Nat.le_of_ble_eq_true rfl⟩ (Nat.le_of_ble_eq_true rfl) dL_acks_151 rfl (fun x1 J1 hq => ?_)
  obtain ⟨hx, hI⟩ := hq
  rw [hx, hI]
  refine j_if_ne (pc' := 157) (tgt := 161) dL_acks_154 rfl (by decide) (fun c154 => ?_) (fun c154 => ?_)
  ·
    refine j_iconst (pc' := 162) (v := nI 0) dL_acks_161 rfl rfl ?_
    refine j_istore (pc' := 164) (lv' := [_, _, _, _, _, _, _, _, _]) dL_acks_162 rfl (by decide) rfl ?_
    refine j_aload_n (pc' := 165) dL_acks_164 rfl rfl ?_
    refine j_iload_n (pc' := 166) dL_acks_165 rfl rfl ?_
    refine j_cViR (pc' := 169) m_L_47 (p_acke hD hV (by omega) (by omega) (a := (-20002)) (congrArg Prod.fst (fAck_t hV.z h16 hi (h10 c154))) (by decide) (congrArg Prod.snd (fAck_t hV.z h16 hi (h10 c154)))) Kd (by decide) rfl rfl rfl ⟨Nat.le_of_ble_eq_true rfl, Nat.le_of_ble_eq_true rfl⟩ ⟨Nat.le_of_ble_eq_true rfl, Nat.le_of_ble_eq_true rfl⟩ (Nat.le_of_ble_eq_true rfl) dL_acks_166 rfl (fun x1 R1 I1 hq => ?_)
    obtain ⟨hx, hD⟩ := hq
    rw [hx]
    refine j_istore (pc' := 171) (lv' := [_, _, _, _, _, _, _, _, _]) dL_acks_169 rfl (by decide) rfl ?_
    refine j_iload (pc' := 173) dL_acks_171 rfl rfl ?_
    refine j_ifT_eq (tgt := 247) (by decide) dL_acks_173 (by decide) ?_
    refine j_iload (pc' := 249) dL_acks_247 rfl rfl ?_
    refine j_sipush (pc' := 252) (v := (-20002)) dL_acks_249 rfl rfl ?_
    refine j_icmpF_ne (pc' := 255) (tgt := 268) (by decide) dL_acks_252 (by decide) rfl ?_
    refine j_aload_n (pc' := 256) dL_acks_255 rfl rfl ?_
    refine j_cV0 (pc' := 259) m_L_9 (p_fingerprint hD hV (by omega) (by omega)) Kd (by decide) rfl rfl rfl ⟨Nat.le_of_ble_eq_true rfl, Nat.le_of_ble_eq_true rfl⟩ ⟨Nat.le_of_ble_eq_true rfl, Nat.le_of_ble_eq_true rfl⟩ (Nat.le_of_ble_eq_true rfl) dL_acks_256 rfl (fun v1 J1 hq => ?_)
    obtain ⟨hx, hI⟩ := hq
    rw [hx, hI]
    refine j_lload_n (pc' := 260) dL_acks_259 rfl rfl ?_
    refine j_lcmp (pc' := 261) dL_acks_260 rfl ?_
    rw [lg_self]
    refine j_ifF_ne (pc' := 264) (tgt := 268) (by decide) dL_acks_261 (by decide) rfl ?_
    refine j_iconst (pc' := 265) (v := nI 1) dL_acks_264 rfl rfl ?_
    refine j_goto (tgt := 269) dL_acks_265 (by decide) ?_
    refine j_retiR dL_acks_269 rfl (by first | rfl | exact bi_n _) ?_
    exact ⟨rfl, v, _, _, S, N, hD.mono (by omega), hV, by omega, hP⟩
  ·
    refine j_iconst (pc' := 158) (v := nI 1) dL_acks_157 rfl rfl ?_
    refine j_goto (tgt := 162) dL_acks_158 (by decide) ?_
    refine j_istore (pc' := 164) (lv' := [_, _, _, _, _, _, _, _, _]) dL_acks_162 rfl (by decide) rfl ?_
    refine j_aload_n (pc' := 165) dL_acks_164 rfl rfl ?_
    refine j_iload_n (pc' := 166) dL_acks_165 rfl rfl ?_
    refine j_cViR (pc' := 169) m_L_47 (p_acks hD hV (by omega) (by omega) (a := v 1 - v (176 + 56 * i + 12)) (w := sHap (wAck v i) (nI 3) (nI i)) (congrArg Prod.fst (fAck_s hV.z h16 hi (by rw [c154]; decide))) (hsub) (congrArg Prod.snd (fAck_s hV.z h16 hi (by rw [c154]; decide)))) Kd (by decide) rfl rfl rfl ⟨Nat.le_of_ble_eq_true rfl, Nat.le_of_ble_eq_true rfl⟩ ⟨Nat.le_of_ble_eq_true rfl, Nat.le_of_ble_eq_true rfl⟩ (Nat.le_of_ble_eq_true rfl) dL_acks_166 rfl (fun x1 R1 I1 hq => ?_)
    obtain ⟨hx, hD⟩ := hq
    rw [hx]
    obtain ⟨hV1, hN1, _⟩ := hD.to9 (N := N + 1) ((sHap_o (by omega)).trans ((show wAck v i _ = v _ from by unfold wAck; rw [pk_un (by omega), pk_un (by omega), pk_un (by omega)]).trans hV.z)) h16 ((sHap_o (by omega)).trans ((show wAck v i _ = v _ from by unfold wAck; rw [pk_un (by omega), pk_un (by omega), pk_un (by omega)]).trans hV.t)) hV.tl ((sHap_o (by omega)).trans ((show wAck v i _ = v _ from by unfold wAck; rw [pk_un (by omega), pk_un (by omega), pk_un (by omega)]).trans hV.s)) hV.sl (sHap_9 ((show wAck v i _ = v _ from by unfold wAck; rw [pk_un (by omega), pk_un (by omega), pk_un (by omega)]).trans hV.n) (by omega)) (by omega) (by omega)
    refine j_istore (pc' := 171) (lv' := [_, _, _, _, _, _, _, _, _]) dL_acks_169 rfl (by decide) rfl ?_
    refine j_iload (pc' := 173) dL_acks_171 rfl rfl ?_
    refine j_ifF_eq (pc' := 176) (tgt := 247) (by decide) dL_acks_173 (by decide) rfl ?_
    refine j_iload (pc' := 178) dL_acks_176 rfl rfl ?_
    refine j_iload (pc' := 180) dL_acks_178 rfl rfl ?_
    refine j_icmpF_ne (pc' := 183) (tgt := 243) (rfl) dL_acks_180 (by decide) rfl ?_
    refine j_aload_n (pc' := 184) dL_acks_183 rfl rfl ?_
    refine j_iload_n (pc' := 185) dL_acks_184 rfl rfl ?_
    refine j_bipush (pc' := 187) (v := nI 10) dL_acks_185 rfl rfl ?_
    refine j_cVi (pc' := 190) m_L_31 (p_point hD hV1 (by omega) (by omega) (a := nI 1) ((fPt_w hV1.z h16 hi (show 10 < 15 from by omega)).trans ((sHap_o (by omega)).trans (show wAck v i _ = nI 1 from by unfold wAck; rw [pk_un (by omega), pk_un (by omega), pk_us])))) Kd (by decide) rfl rfl rfl ⟨Nat.le_of_ble_eq_true rfl, Nat.le_of_ble_eq_true rfl⟩ ⟨Nat.le_of_ble_eq_true rfl, Nat.le_of_ble_eq_true rfl⟩ (Nat.le_of_ble_eq_true rfl) dL_acks_187 rfl (fun x1 J1 hq => ?_)
    obtain ⟨hx, hI⟩ := hq
    rw [hx, hI]
    refine j_iconst (pc' := 191) (v := nI 1) dL_acks_190 rfl rfl ?_
    refine j_icmpF_ne (pc' := 194) (tgt := 243) (by decide) dL_acks_191 (by decide) rfl ?_
    refine j_aload_n (pc' := 195) dL_acks_194 rfl rfl ?_
    refine j_iconst (pc' := 196) (v := nI 0) dL_acks_195 rfl rfl ?_
    refine j_iconst (pc' := 197) (v := nI 1) dL_acks_196 rfl rfl ?_
    refine j_cVi (pc' := 200) m_L_62 (p_event hD hV1 (by omega) (by omega) (a := nI 3) ((ev_hap ((show wAck v i _ = v _ from by unfold wAck; rw [pk_un (by omega), pk_un (by omega), pk_un (by omega)]).trans hV.n) (by omega) (by omega)).trans rfl)) Kd (by decide) rfl rfl rfl ⟨Nat.le_of_ble_eq_true rfl, Nat.le_of_ble_eq_true rfl⟩ ⟨Nat.le_of_ble_eq_true rfl, Nat.le_of_ble_eq_true rfl⟩ (Nat.le_of_ble_eq_true rfl) dL_acks_197 rfl (fun x1 J1 hq => ?_)
    obtain ⟨hx, hI⟩ := hq
    rw [hx, hI]
    refine j_iconst (pc' := 201) (v := nI 3) dL_acks_200 rfl rfl ?_
    refine j_icmpF_ne (pc' := 204) (tgt := 243) (by decide) dL_acks_201 (by decide) rfl ?_
    refine j_aload_n (pc' := 205) dL_acks_204 rfl rfl ?_
    refine j_iconst (pc' := 206) (v := nI 0) dL_acks_205 rfl rfl ?_
    refine j_iconst (pc' := 207) (v := nI 2) dL_acks_206 rfl rfl ?_
    refine j_cVi (pc' := 210) m_L_62 (p_event hD hV1 (by omega) (by omega) (a := nI i) ((ev_hap ((show wAck v i _ = v _ from by unfold wAck; rw [pk_un (by omega), pk_un (by omega), pk_un (by omega)]).trans hV.n) (by omega) (by omega)).trans rfl)) Kd (by decide) rfl rfl rfl ⟨Nat.le_of_ble_eq_true rfl, Nat.le_of_ble_eq_true rfl⟩ ⟨Nat.le_of_ble_eq_true rfl, Nat.le_of_ble_eq_true rfl⟩ (Nat.le_of_ble_eq_true rfl) dL_acks_207 rfl (fun x1 J1 hq => ?_)
    obtain ⟨hx, hI⟩ := hq
    rw [hx, hI]
    refine j_iload_n (pc' := 211) dL_acks_210 rfl rfl ?_
    refine j_icmpF_ne (pc' := 214) (tgt := 243) (rfl) dL_acks_211 (by decide) rfl ?_
    refine j_aload_n (pc' := 215) dL_acks_214 rfl rfl ?_
    refine j_iconst (pc' := 216) (v := nI 0) dL_acks_215 rfl rfl ?_
    refine j_iconst (pc' := 217) (v := nI 0) dL_acks_216 rfl rfl ?_
    refine j_cVi (pc' := 220) m_L_62 (p_event hD hV1 (by omega) (by omega) (a := v 1) ((ev_hap ((show wAck v i _ = v _ from by unfold wAck; rw [pk_un (by omega), pk_un (by omega), pk_un (by omega)]).trans hV.n) (by omega) (by omega)).trans ((if_pos rfl).trans (show wAck v i _ = v _ from by unfold wAck; rw [pk_un (by omega), pk_un (by omega), pk_un (by omega)])))) Kd (by decide) rfl rfl rfl ⟨Nat.le_of_ble_eq_true rfl, Nat.le_of_ble_eq_true rfl⟩ ⟨Nat.le_of_ble_eq_true rfl, Nat.le_of_ble_eq_true rfl⟩ (Nat.le_of_ble_eq_true rfl) dL_acks_217 rfl (fun x1 J1 hq => ?_)
    obtain ⟨hx, hI⟩ := hq
    rw [hx, hI]
    refine j_aload_n (pc' := 221) dL_acks_220 rfl rfl ?_
    refine j_iconst (pc' := 222) (v := nI 0) dL_acks_221 rfl rfl ?_
    refine j_cVi (pc' := 225) m_L_44 (p_plant hD hV1 (by omega) (by omega) (a := v 1) (fPl_0.trans ((sHap_o (by omega)).trans (show wAck v i _ = v _ from by unfold wAck; rw [pk_un (by omega), pk_un (by omega), pk_un (by omega)])))) Kd (by decide) rfl rfl rfl ⟨Nat.le_of_ble_eq_true rfl, Nat.le_of_ble_eq_true rfl⟩ ⟨Nat.le_of_ble_eq_true rfl, Nat.le_of_ble_eq_true rfl⟩ (Nat.le_of_ble_eq_true rfl) dL_acks_222 rfl (fun x1 J1 hq => ?_)
    obtain ⟨hx, hI⟩ := hq
    rw [hx, hI]
    refine j_icmpF_ne (pc' := 228) (tgt := 243) (rfl) dL_acks_225 (by decide) rfl ?_
    refine j_aload_n (pc' := 229) dL_acks_228 rfl rfl ?_
    refine j_iload_n (pc' := 230) dL_acks_229 rfl rfl ?_
    refine j_cViR (pc' := 233) m_L_47 (p_acke hD hV1 (by omega) (by omega) (a := (-20002)) (congrArg Prod.fst (fAck_t hV1.z h16 hi ((sHap_o (by omega)).trans (show wAck v i _ = nI 1 from by unfold wAck; rw [pk_un (by omega), pk_un (by omega), pk_us])))) (by decide) (congrArg Prod.snd (fAck_t hV1.z h16 hi ((sHap_o (by omega)).trans (show wAck v i _ = nI 1 from by unfold wAck; rw [pk_un (by omega), pk_un (by omega), pk_us]))))) Kd (by decide) rfl rfl rfl ⟨Nat.le_of_ble_eq_true rfl, Nat.le_of_ble_eq_true rfl⟩ ⟨Nat.le_of_ble_eq_true rfl, Nat.le_of_ble_eq_true rfl⟩ (Nat.le_of_ble_eq_true rfl) dL_acks_230 rfl (fun x1 R1 I1 hq => ?_)
    obtain ⟨hx, hD⟩ := hq
    rw [hx]
    refine j_sipush (pc' := 236) (v := (-20002)) dL_acks_233 rfl rfl ?_
    refine j_icmpF_ne (pc' := 239) (tgt := 243) (by decide) dL_acks_236 (by decide) rfl ?_
    refine j_iconst (pc' := 240) (v := nI 1) dL_acks_239 rfl rfl ?_
    refine j_goto (tgt := 269) dL_acks_240 (by decide) ?_
    refine j_retiR dL_acks_269 rfl (by first | rfl | exact bi_n _) ?_
    exact ⟨rfl, _, _, _, S, N + 1, hD.mono (by omega), hV1, by omega, by have := hP.ack hV.z h16 hi; rw [fAck_s hV.z h16 hi (by rw [c154]; decide)] at this; exact this⟩
