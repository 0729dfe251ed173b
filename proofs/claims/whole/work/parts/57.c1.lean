/-! ===== the texts of the class: their rows ===== -/
def jx_ch (i j : Nat) : Int32 := (jx_byt.getD i []).getD j 0
def jx_ln (i : Nat) : Nat := jx_len.getD i 0
theorem jx_ch_b : ∀ i, i < 5 → ∀ j, j < jx_ln i → ((jx_ch i j &&& 255).toUInt32 % 65536).toInt32 = jx_ch i j := by decide
theorem jx_ch_c : ∀ i, i < 5 → ∀ j, j < jx_ln i → (jx_ch i j).toUInt32.toUInt16.toUInt32.toInt32 = jx_ch i j := by decide
theorem jx_ln_7 : ∀ i, i < 5 → jx_ln i ≤ 7 := by decide
theorem jx_chn {i j : Nat} (hi : i < 5) (hj : j < jx_ln i) : narrow .char (.int (jx_ch i j)) = .int (jx_ch i j) := by
  have h := jx_ch_c i hi j hj
  show Value.int _ = Value.int _
  exact congrArg Value.int h
theorem j_ldc {E : jx_E} {l : Launch} {cd : ByteArray} {nL : Nat} {ret : Option FieldType} {own : String} {ini : Bool} {Rm : Room} {mc ms : Nat} {Q : jx_Q} {cells slots n : Nat} {kd : jx_K} {R : jx_R} {I : jx_I} {pc pc' : Nat} {lv : List (Option Value)} {st : List Value} {ix i : Nat} (how : own = RX3) (hZ0 : ∀ s H, jx_En E s H → ∃ tx, vk_R RX3 ix tx (E.2.2.2.1 i) s) (hd : decode cd pc = .ok (.ldc ix, 2)) (hp : pc + 2 = pc') (k : jx_J E l cd nL ret own ini Rm mc ms Q cells slots n kd R I pc' lv (.ref (E.2.2.2.1 i) :: st)) : jx_J E l cd nL ret own ini Rm mc ms Q cells slots n kd R I pc lv (st) := by
  subst how
  subst hp
  intro p e s m args below meth c Z X hZ H locs ls hN hW hS hl
  have hE := X.2.2.2.2.2.2.2.2.1
  obtain ⟨tx, ht⟩ := hZ0 _ _ hE
  exact va_ldcS X.1 X.2.1 X.2.2.2.2.2.1 ht hd (k p e s m args below meth c Z X hZ H locs ls hN hW hS hl)
theorem j_gsCompact {E : jx_E} {l : Launch} {cd : ByteArray} {nL : Nat} {ret : Option FieldType} {own : String} {ini : Bool} {Rm : Room} {mc ms : Nat} {Q : jx_Q} {cells slots n : Nat} {kd : jx_K} {R : jx_R} {I : jx_I} {pc pc' : Nat} {lv : List (Option Value)} {st : List Value} (how : own = RJ0) (hd : decode cd pc = .ok (.getstatic 38, 3)) (hp : pc + 3 = pc') (k : jx_J E l cd nL ret own ini Rm mc ms Q cells slots n kd R I pc' lv (.int 1 :: st)) : jx_J E l cd nL ret own ini Rm mc ms Q cells slots n kd R I pc lv (st) := by
  subst how
  subst hp
  intro p e s m args below meth c Z X hZ H locs ls hN hW hS hl
  have hE := X.2.2.2.2.2.2.2.2.1
  exact va_gets (C := RJ0) X.1 X.2.1 hE.2.2.2.2.2.1 hS X.2.2.2.2.2.1 (X.2.2.2.2.2.2.2.1 _ k_464) (fun _ h => h) hd (k p e s m args below meth c Z X hZ H locs ls hN hW hS hl)
theorem j_gsForm {E : jx_E} {l : Launch} {cd : ByteArray} {nL : Nat} {ret : Option FieldType} {own : String} {ini : Bool} {Rm : Room} {mc ms : Nat} {Q : jx_Q} {cells slots n : Nat} {kd : jx_K} {R : jx_R} {I : jx_I} {pc pc' : Nat} {lv : List (Option Value)} {st : List Value} (how : own = RJ0) (hd : decode cd pc = .ok (.getstatic 1053, 3)) (hp : pc + 3 = pc') (k : ∀ w : Value, (w = .null ∨ ∃ t, w = .ref t) → jx_J E l cd nL ret own ini Rm mc ms Q cells slots n kd R I pc' lv (w :: st)) : jx_J E l cd nL ret own ini Rm mc ms Q cells slots n kd R I pc lv (st) := by
  subst how
  subst hp
  intro p e s m args below meth c Z X hZ H locs ls hN hW hS hl
  have hE := X.2.2.2.2.2.2.2.2.1
  rcases hE.2.2.2.2.2.2.1 with h0 | ⟨t, h0⟩
  · exact va_gets (C := RJ3) X.1 X.2.1 h0 hS X.2.2.2.2.2.1 (X.2.2.2.2.2.2.2.1 _ k_479) (fun _ h => h) hd (k _ (Or.inl rfl) p e s m args below meth c Z X hZ H locs ls hN hW hS hl)
  · exact va_gets (C := RJ3) X.1 X.2.1 h0 hS X.2.2.2.2.2.1 (X.2.2.2.2.2.2.2.1 _ k_479) (fun _ h => h) hd (k _ (Or.inr ⟨t, rfl⟩) p e s m args below meth c Z X hZ H locs ls hN hW hS hl)
theorem j_getCoder {E : jx_E} {l : Launch} {cd : ByteArray} {nL : Nat} {ret : Option FieldType} {own : String} {ini : Bool} {Rm : Room} {mc ms : Nat} {Q : jx_Q} {cells slots n : Nat} {kd : jx_K} {R : jx_R} {I : jx_I} {pc pc' : Nat} {lv : List (Option Value)} {st : List Value} {i : Nat} (how : own = RJ0) (hi : i < 5) (hd : decode cd pc = .ok (.getfield 15, 3)) (hp : pc + 3 = pc') (k : jx_J E l cd nL ret own ini Rm mc ms Q cells slots n kd R I pc' lv (.int 0 :: st)) : jx_J E l cd nL ret own ini Rm mc ms Q cells slots n kd R I pc lv (.ref (E.2.2.2.1 i) :: st) := by
  subst how
  subst hp
  intro p e s m args below meth c Z X hZ H locs ls hN hW hS hl
  have hE := X.2.2.2.2.2.2.2.2.1
  exact vk_getf X.1 X.2.1 (hE.2.1.1 i hi).2.1 hS X.2.2.2.2.2.1 (X.2.2.2.2.2.2.2.1 _ k_772) (fun _ h => h) hd (k p e s m args below meth c Z X hZ H locs ls hN hW hS hl)
theorem j_getValue {E : jx_E} {l : Launch} {cd : ByteArray} {nL : Nat} {ret : Option FieldType} {own : String} {ini : Bool} {Rm : Room} {mc ms : Nat} {Q : jx_Q} {cells slots n : Nat} {kd : jx_K} {R : jx_R} {I : jx_I} {pc pc' : Nat} {lv : List (Option Value)} {st : List Value} {i : Nat} (how : own = RJ0) (hi : i < 5) (hd : decode cd pc = .ok (.getfield 9, 3)) (hp : pc + 3 = pc') (k : jx_J E l cd nL ret own ini Rm mc ms Q cells slots n kd R I pc' lv (.ref (E.2.2.2.1 (5 + i)) :: st)) : jx_J E l cd nL ret own ini Rm mc ms Q cells slots n kd R I pc lv (.ref (E.2.2.2.1 i) :: st) := by
  subst how
  subst hp
  intro p e s m args below meth c Z X hZ H locs ls hN hW hS hl
  have hE := X.2.2.2.2.2.2.2.2.1
  exact vk_getf X.1 X.2.1 (hE.2.1.1 i hi).2.2.1 hS X.2.2.2.2.2.1 (X.2.2.2.2.2.2.2.1 _ k_771) (fun _ h => h) hd (k p e s m args below meth c Z X hZ H locs ls hN hW hS hl)
theorem j_alenS {E : jx_E} {l : Launch} {cd : ByteArray} {nL : Nat} {ret : Option FieldType} {own : String} {ini : Bool} {Rm : Room} {mc ms : Nat} {Q : jx_Q} {cells slots n : Nat} {kd : jx_K} {R : jx_R} {I : jx_I} {pc pc' : Nat} {lv : List (Option Value)} {st : List Value} {i : Nat} (hi : i < 5) (hd : decode cd pc = .ok (.arraylength, 1)) (hp : pc + 1 = pc') (k : jx_J E l cd nL ret own ini Rm mc ms Q cells slots n kd R I pc' lv (.int (nI (jx_ln i)) :: st)) : jx_J E l cd nL ret own ini Rm mc ms Q cells slots n kd R I pc lv (.ref (E.2.2.2.1 (5 + i)) :: st) := by
  subst hp
  intro p e s m args below meth c Z X hZ H locs ls hN hW hS hl
  have hE := X.2.2.2.2.2.2.2.2.1
  exact va_tlen X.1 X.2.1 (hE.2.1.1 i hi).2.2.2 hS rfl hd (k p e s m args below meth c Z X hZ H locs ls hN hW hS hl)
theorem j_baldS {E : jx_E} {l : Launch} {cd : ByteArray} {nL : Nat} {ret : Option FieldType} {own : String} {ini : Bool} {Rm : Room} {mc ms : Nat} {Q : jx_Q} {cells slots n : Nat} {kd : jx_K} {R : jx_R} {I : jx_I} {pc pc' : Nat} {lv : List (Option Value)} {st : List Value} {i j : Nat} (hi : i < 5) (hj : j < jx_ln i) (hd : decode cd pc = .ok (.baload, 1)) (hp : pc + 1 = pc') (k : jx_J E l cd nL ret own ini Rm mc ms Q cells slots n kd R I pc' lv (.int (jx_ch i j) :: st)) : jx_J E l cd nL ret own ini Rm mc ms Q cells slots n kd R I pc lv (.int (nI j) :: .ref (E.2.2.2.1 (5 + i)) :: st) := by
  have h7 := jx_ln_7 i hi
  subst hp
  intro p e s m args below meth c Z X hZ H locs ls hN hW hS hl
  have hE := X.2.2.2.2.2.2.2.2.1
  exact va_tb X.1 X.2.1 (hE.2.1.1 i hi).2.2.2 hS (nI_in hj (show jx_ln i < 2147483648 from by omega)) (by rw [nI_clamp (by omega)]; rfl) hd (k p e s m args below meth c Z X hZ H locs ls hN hW hS hl)

theorem j_callStr {E : jx_E} {l : Launch} {cd : ByteArray} {nL : Nat} {ret : Option FieldType} {own : String} {ini : Bool} {Rm : Room} {mc ms : Nat} {Q : jx_Q} {cells slots n : Nat} {kd : jx_K} {R : jx_R} {I : jx_I} {pc pc' : Nat} {lv : List (Option Value)} {st : List Value} {y : MethodName} {cd1 : ByteArray} {nL1 ix k1 d1 mc1 ms1 : Nat} {ret1 : Option FieldType} {As rest : List Value} {Q1 : jx_Q} {i : Nat} (hi5 : i < 5) (hm : jx_mV own ix RJ0 y cd1 nL1 ret1 k1) (hC : jx_Ct E l y cd1 nL1 ret1 d1 mc1 ms1 n kd R I (.ref (E.2.2.2.1 i) :: As) Q1) (hs : As.reverse ++ .ref (E.2.2.2.1 i) :: rest = st) (hl1 : As.length = k1) (hR : d1 + 1 ≤ Rm.frames ∧ 8 + (nL1 + 11) + 32 * d1 ≤ Rm.locals) (hf : cells + mc1 ≤ Rm.cells ∧ slots + ms1 ≤ Rm.slots) (hcat : (rest.map fun v => v.category).sum ≤ 8) (hd : decode cd pc = .ok (.invokevirtual ix, 3)) (hp : pc + 3 = pc') (k : ∀ (v : Option Value) (n1 : Nat) (kd1 : jx_K) (R1 : jx_R) (I1 : jx_I), Q1 v n1 kd1 R1 I1 → n1 = n + mc1 → jx_J E l cd nL ret own ini Rm mc ms Q (cells + mc1) (slots + ms1) n1 kd1 R1 I1 pc' lv (v.toList ++ rest)) : jx_J E l cd nL ret own ini Rm mc ms Q cells slots n kd R I pc lv st := by
  obtain ⟨w1, w2, w3, w4, w5, w6⟩ := hm
  subst hp; subst hs
  intro p e s m args below meth c Z X hZ H locs ls hN hW hS hl
  intro T0 hT XS
  have hz := jx_size XS hT X.2.2.2.2.2.2.2.2.2 hN hW
  refine (show W p l e Rm s m args below meth c H locs cells slots Z (F0 m pc ls _) from ?_) T0 hT XS
  refine jx_after (va_runV (Ts := jx_W) (As := As) (rest := rest) ⟨X.1, X.2.1, X.2.2.2.2.1, X.2.2.2.2.2.1, X.2.2.2.2.2.2.2.1⟩ hC ⟨callB_of k1 (X.2.2.2.2.2.2.2.1) (jx_goodIn w5) rfl rfl rfl (X.2.2.2.2.2.2.2.1 _ w4) (X.2.2.2.2.2.2.2.1 _ w1) w6 hR, X.2.2.2.2.2.2.2.1 _ w2, X.2.2.2.2.2.2.2.1 _ w3⟩ ⟨jx_blind, vk_recv X.2.2.2.2.2.2.2.2.1.2.1 hi5 hS, fun U hU hWm => ⟨rfl, X.2.2.2.2.2.2.2.2.1.next hS hU hWm, by rw [hU]; exact hz, by rw [hU]; exact hW⟩⟩ rfl hl1 (hl.1.trans rfl) rfl (lv_room hcat) hd hf) hz hS (fun v n1 kd1 R1 I1 H1 locs1 hQ hn hW1 hS1 => ?_)
  exact k v n1 kd1 R1 I1 hQ hn p e s m args below meth c Z X hZ H1 locs1 ls (by omega) hW1 hS1 hl

theorem j_cStri {E : jx_E} {l : Launch} {cd : ByteArray} {nL : Nat} {ret : Option FieldType} {own : String} {ini : Bool} {Rm : Room} {mc ms : Nat} {Q : jx_Q} {cells slots n : Nat} {kd : jx_K} {R : jx_R} {I : jx_I} {pc pc' : Nat} {lv : List (Option Value)} {st : List Value} {y : MethodName} {cd1 : ByteArray} {nL1 ix k1 d1 : Nat} {ret1 : Option FieldType} {As rest : List Value} {i : Nat} {P : Int32 → jx_I → Prop} (hi5 : i < 5) (hm : jx_mV own ix RJ0 y cd1 nL1 ret1 k1) (hC : jx_Ci E l y cd1 nL1 ret1 d1 n kd R I (.ref (E.2.2.2.1 i) :: As) P) (hs : As.reverse ++ .ref (E.2.2.2.1 i) :: rest = st) (hl1 : As.length = k1) (hR : d1 + 1 ≤ Rm.frames ∧ 8 + (nL1 + 11) + 32 * d1 ≤ Rm.locals) (hf : cells ≤ Rm.cells ∧ slots ≤ Rm.slots) (hcat : (rest.map fun v => v.category).sum ≤ 8) (hd : decode cd pc = .ok (.invokevirtual ix, 3)) (hp : pc + 3 = pc') (k : ∀ (x : Int32) (I1 : jx_I), P x I1 → jx_J E l cd nL ret own ini Rm mc ms Q cells slots n kd R I1 pc' lv (.int x :: rest)) : jx_J E l cd nL ret own ini Rm mc ms Q cells slots n kd R I pc lv st :=
  j_callStr hi5 hm hC hs hl1 hR hf hcat hd hp (fun v n1 kd1 R1 I1 h _ => by
    obtain ⟨rfl, rfl, rfl, x, rfl, h⟩ := h
    exact k x I1 h)
set_option maxRecDepth 100000 in
set_option maxHeartbeats 4000000 in
theorem c_J3_checkIndex_8e157_n {E : jx_E} {l : Launch} {n : Nat} {kd : jx_K} {R : jx_R} {I : jx_I} {i m : Nat} (hi : i < m) (hm : m < 2147483648) : jx_Ci E l yJ3_checkIndex_8e157 cJ3_checkIndex_8e157 3 (some .int) 0 n kd R I [.int (nI i), .int (nI m), .null] (fun r I' => r = nI i ∧ I' = I) := by
  refine jx_C0.ofJ RJ3 [some (.int (nI i)), some (.int (nI m)), some (.null)] (by decide) rfl rfl (Nat.le_of_ble_eq_true rfl) rfl ?_
  refine j_iload_n (pc' := 1) dJ3_checkIndex_8e157_0 rfl rfl ?_
  refine j_if_ltN' (tgt := 9) (pc' := 4) (by with_reducible rfl) (by omega) dJ3_checkIndex_8e157_1 rfl (by decide) (fun c1 => ?_) (fun c1 => ?_)
  · exact absurd c1 (Nat.not_lt_zero _)
  refine j_iload_n (pc' := 5) dJ3_checkIndex_8e157_4 rfl rfl ?_
  refine j_iload_n (pc' := 6) dJ3_checkIndex_8e157_5 rfl rfl ?_
  refine j_icmp_ltN' (tgt := 16) (pc' := 9) (by with_reducible rfl) (by with_reducible rfl) (by omega) (by omega) dJ3_checkIndex_8e157_6 rfl (by decide) (fun c6 => ?_) (fun c6 => ?_)
  · refine j_iload_n (pc' := 17) dJ3_checkIndex_8e157_16 rfl rfl ?_
    refine j_reti dJ3_checkIndex_8e157_17 rfl rfl ?_
    exact ⟨rfl, rfl⟩
  · exact absurd hi (Nat.not_lt.mpr c6)

set_option maxRecDepth 100000 in
set_option maxHeartbeats 4000000 in
theorem c_J3_checkIndex_8e157_r {E : jx_E} {l : Launch} {n : Nat} {kd : jx_K} {R : jx_R} {I : jx_I} {i m t : Nat} (hi : i < m) (hm : m < 2147483648) : jx_Ci E l yJ3_checkIndex_8e157 cJ3_checkIndex_8e157 3 (some .int) 0 n kd R I [.int (nI i), .int (nI m), .ref t] (fun r I' => r = nI i ∧ I' = I) := by
  refine jx_C0.ofJ RJ3 [some (.int (nI i)), some (.int (nI m)), some (.ref t)] (by decide) rfl rfl (Nat.le_of_ble_eq_true rfl) rfl ?_
  refine j_iload_n (pc' := 1) dJ3_checkIndex_8e157_0 rfl rfl ?_
  refine j_if_ltN' (tgt := 9) (pc' := 4) (by with_reducible rfl) (by omega) dJ3_checkIndex_8e157_1 rfl (by decide) (fun c1 => ?_) (fun c1 => ?_)
  · exact absurd c1 (Nat.not_lt_zero _)
  refine j_iload_n (pc' := 5) dJ3_checkIndex_8e157_4 rfl rfl ?_
  refine j_iload_n (pc' := 6) dJ3_checkIndex_8e157_5 rfl rfl ?_
  refine j_icmp_ltN' (tgt := 16) (pc' := 9) (by with_reducible rfl) (by with_reducible rfl) (by omega) (by omega) dJ3_checkIndex_8e157_6 rfl (by decide) (fun c6 => ?_) (fun c6 => ?_)
  · refine j_iload_n (pc' := 17) dJ3_checkIndex_8e157_16 rfl rfl ?_
    refine j_reti dJ3_checkIndex_8e157_17 rfl rfl ?_
    exact ⟨rfl, rfl⟩
  · exact absurd hi (Nat.not_lt.mpr c6)

set_option maxRecDepth 100000 in
set_option maxHeartbeats 4000000 in
theorem c_J0_checkIndex_df160 {E : jx_E} {l : Launch} {n : Nat} {kd : jx_K} {R : jx_R} {I : jx_I} {i m : Nat} (hi : i < m) (hm : m < 2147483648) : jx_Cv E l yJ0_checkIndex_df160 cJ0_checkIndex_df160 2 none 1 n kd R I [.int (nI i), .int (nI m)] (fun I' => I' = I) := by
  refine jx_C0.ofJ RJ0 [some (.int (nI i)), some (.int (nI m))] (by decide) rfl rfl (Nat.le_of_ble_eq_true rfl) rfl ?_
  refine j_iload_n (pc' := 1) dJ0_checkIndex_df160_0 rfl rfl ?_
  refine j_iload_n (pc' := 2) dJ0_checkIndex_df160_1 rfl rfl ?_
  refine j_gsForm (pc' := 5) rfl dJ0_checkIndex_df160_2 rfl (fun w hw => ?_)
  rcases hw with rfl | ⟨t, rfl⟩
  · refine j_cSi (pc' := 8) m_J0_1059 (c_J3_checkIndex_8e157_n hi hm) rfl rfl ⟨Nat.le_of_ble_eq_true rfl, Nat.le_of_ble_eq_true rfl⟩ ⟨Nat.zero_le _, Nat.zero_le _⟩ (Nat.le_of_ble_eq_true rfl) dJ0_checkIndex_df160_5 rfl (fun x1 I1 hq => ?_)
    obtain ⟨rfl, rfl⟩ := hq
    refine j_pop (pc' := 9) dJ0_checkIndex_df160_8 rfl rfl ?_
    exact j_retv dJ0_checkIndex_df160_9 rfl rfl
  · refine j_cSi (pc' := 8) m_J0_1059 (c_J3_checkIndex_8e157_r hi hm) rfl rfl ⟨Nat.le_of_ble_eq_true rfl, Nat.le_of_ble_eq_true rfl⟩ ⟨Nat.zero_le _, Nat.zero_le _⟩ (Nat.le_of_ble_eq_true rfl) dJ0_checkIndex_df160_5 rfl (fun x1 I1 hq => ?_)
    obtain ⟨rfl, rfl⟩ := hq
    refine j_pop (pc' := 9) dJ0_checkIndex_df160_8 rfl rfl ?_
    exact j_retv dJ0_checkIndex_df160_9 rfl rfl

set_option maxRecDepth 100000 in
set_option maxHeartbeats 4000000 in
theorem c_J1_charAt_3b067 {E : jx_E} {l : Launch} {n : Nat} {kd : jx_K} {R : jx_R} {I : jx_I} {i j : Nat} (hi : i < 5) (hj : j < jx_ln i) : jx_Ci E l yJ1_charAt_3b067 cJ1_charAt_3b067 2 (some .char) 2 n kd R I [.ref (E.2.2.2.1 (5 + i)), .int (nI j)] (fun r I' => r = jx_ch i j ∧ I' = I) := by
  refine jx_C0.ofJ RJ1 [some (.ref (E.2.2.2.1 (5 + i))), some (.int (nI j))] (by decide) rfl rfl (Nat.le_of_ble_eq_true rfl) rfl ?_
  have h7 := jx_ln_7 i hi
  refine j_iload_n (pc' := 1) dJ1_charAt_3b067_0 rfl rfl ?_
  refine j_aload_n (pc' := 2) dJ1_charAt_3b067_1 rfl rfl ?_
  refine j_alenS (pc' := 3) hi dJ1_charAt_3b067_2 rfl ?_
  refine j_cSv (pc' := 6) m_J1_9 (c_J0_checkIndex_df160 hj (by omega)) rfl rfl ⟨Nat.le_of_ble_eq_true rfl, Nat.le_of_ble_eq_true rfl⟩ ⟨Nat.zero_le _, Nat.zero_le _⟩ (Nat.le_of_ble_eq_true rfl) dJ1_charAt_3b067_3 rfl (fun I1 hq => ?_)
  subst hq
  refine j_aload_n (pc' := 7) dJ1_charAt_3b067_6 rfl rfl ?_
  refine j_iload_n (pc' := 8) dJ1_charAt_3b067_7 rfl rfl ?_
  refine j_baldS (pc' := 9) hi hj dJ1_charAt_3b067_8 rfl ?_
  refine j_sipush (pc' := 12) (v := 255) dJ1_charAt_3b067_9 rfl rfl ?_
  refine j_iand (pc' := 13) dJ1_charAt_3b067_12 rfl ?_
  refine j_i2c (pc' := 14) dJ1_charAt_3b067_13 rfl ?_
  rw [jx_ch_b i hi j hj]
  refine j_reti dJ1_charAt_3b067_14 rfl (jx_chn hi hj) ?_
  exact ⟨rfl, rfl⟩

set_option maxRecDepth 100000 in
set_option maxHeartbeats 4000000 in
theorem c_J0_isLatin1_aae02 {E : jx_E} {l : Launch} {n : Nat} {kd : jx_K} {R : jx_R} {I : jx_I} {i : Nat} (hi : i < 5) : jx_Ci E l yJ0_isLatin1_aae02 cJ0_isLatin1_aae02 1 (some .boolean) 0 n kd R I [.ref (E.2.2.2.1 i)] (fun r I' => r = bi true ∧ I' = I) := by
  refine jx_C0.ofJ RJ0 [some (.ref (E.2.2.2.1 i))] (by decide) rfl rfl (Nat.le_of_ble_eq_true rfl) rfl ?_
  refine j_gsCompact (pc' := 3) rfl dJ0_isLatin1_aae02_0 rfl ?_
  refine j_if_eq (tgt := 17) (pc' := 6) dJ0_isLatin1_aae02_3 rfl (by decide) (fun c3 => ?_) (fun c3 => ?_)
  · exact absurd c3 (by decide)
  refine j_aload_n (pc' := 7) dJ0_isLatin1_aae02_6 rfl rfl ?_
  refine j_getCoder (pc' := 10) rfl hi dJ0_isLatin1_aae02_7 rfl ?_
  refine j_if_ne (tgt := 17) (pc' := 13) dJ0_isLatin1_aae02_10 rfl (by decide) (fun c10 => ?_) (fun c10 => ?_)
  · exact absurd rfl c10
  refine j_iconst (pc' := 14) (v := nI 1) dJ0_isLatin1_aae02_13 rfl rfl ?_
  refine j_goto (tgt := 18) dJ0_isLatin1_aae02_14 (by decide) ?_
  refine j_reti dJ0_isLatin1_aae02_18 rfl rfl ?_
  exact ⟨rfl, rfl⟩

set_option maxRecDepth 100000 in
set_option maxHeartbeats 4000000 in
theorem c_J0_coder_7d493 {E : jx_E} {l : Launch} {n : Nat} {kd : jx_K} {R : jx_R} {I : jx_I} {i : Nat} (hi : i < 5) : jx_Ci E l yJ0_coder_7d493 cJ0_coder_7d493 1 (some .byte) 0 n kd R I [.ref (E.2.2.2.1 i)] (fun r I' => r = 0 ∧ I' = I) := by
  refine jx_C0.ofJ RJ0 [some (.ref (E.2.2.2.1 i))] (by decide) rfl rfl (Nat.le_of_ble_eq_true rfl) rfl ?_
  refine j_gsCompact (pc' := 3) rfl dJ0_coder_7d493_0 rfl ?_
  refine j_if_eq (tgt := 13) (pc' := 6) dJ0_coder_7d493_3 rfl (by decide) (fun c3 => ?_) (fun c3 => ?_)
  · exact absurd c3 (by decide)
  refine j_aload_n (pc' := 7) dJ0_coder_7d493_6 rfl rfl ?_
  refine j_getCoder (pc' := 10) rfl hi dJ0_coder_7d493_7 rfl ?_
  refine j_goto (tgt := 14) dJ0_coder_7d493_10 (by decide) ?_
  refine j_reti dJ0_coder_7d493_14 rfl rfl ?_
  exact ⟨rfl, rfl⟩

set_option maxRecDepth 100000 in
set_option maxHeartbeats 4000000 in
theorem c_J0_charAt_5068e {E : jx_E} {l : Launch} {n : Nat} {kd : jx_K} {R : jx_R} {I : jx_I} {i j : Nat} (hi : i < 5) (hj : j < jx_ln i) : jx_Ci E l yJ0_charAt_5068e cJ0_charAt_5068e 2 (some .char) 3 n kd R I [.ref (E.2.2.2.1 i), .int (nI j)] (fun r I' => r = jx_ch i j ∧ I' = I) := by
  refine jx_C0.ofJ RJ0 [some (.ref (E.2.2.2.1 i)), some (.int (nI j))] (by decide) rfl rfl (Nat.le_of_ble_eq_true rfl) rfl ?_
  refine j_aload_n (pc' := 1) dJ0_charAt_5068e_0 rfl rfl ?_
  refine j_cStri (pc' := 4) hi m_J0_492 (c_J0_isLatin1_aae02 hi) rfl rfl ⟨Nat.le_of_ble_eq_true rfl, Nat.le_of_ble_eq_true rfl⟩ ⟨Nat.zero_le _, Nat.zero_le _⟩ (Nat.le_of_ble_eq_true rfl) dJ0_charAt_5068e_1 rfl (fun x1 I1 hq => ?_)
  obtain ⟨rfl, rfl⟩ := hq
  refine j_if_eq (tgt := 16) (pc' := 7) dJ0_charAt_5068e_4 rfl (by decide) (fun c4 => ?_) (fun c4 => ?_)
  · exact absurd c4 (by decide)
  refine j_aload_n (pc' := 8) dJ0_charAt_5068e_7 rfl rfl ?_
  refine j_getValue (pc' := 11) rfl hi dJ0_charAt_5068e_8 rfl ?_
  refine j_iload_n (pc' := 12) dJ0_charAt_5068e_11 rfl rfl ?_
  refine j_cSi (pc' := 15) m_J0_495 (c_J1_charAt_3b067 hi hj) rfl rfl ⟨Nat.le_of_ble_eq_true rfl, Nat.le_of_ble_eq_true rfl⟩ ⟨Nat.zero_le _, Nat.zero_le _⟩ (Nat.le_of_ble_eq_true rfl) dJ0_charAt_5068e_12 rfl (fun x1 I1 hq => ?_)
  obtain ⟨rfl, rfl⟩ := hq
  refine j_reti dJ0_charAt_5068e_15 rfl (jx_chn hi hj) ?_
  exact ⟨rfl, rfl⟩

set_option maxRecDepth 100000 in
set_option maxHeartbeats 4000000 in
theorem c_J0_length_8abf5 {E : jx_E} {l : Launch} {n : Nat} {kd : jx_K} {R : jx_R} {I : jx_I} {i : Nat} (hi : i < 5) : jx_Ci E l yJ0_length_8abf5 cJ0_length_8abf5 1 (some .int) 1 n kd R I [.ref (E.2.2.2.1 i)] (fun r I' => r = nI (jx_ln i) ∧ I' = I) := by
  refine jx_C0.ofJ RJ0 [some (.ref (E.2.2.2.1 i))] (by decide) rfl rfl (Nat.le_of_ble_eq_true rfl) rfl ?_
  refine j_aload_n (pc' := 1) dJ0_length_8abf5_0 rfl rfl ?_
  refine j_getValue (pc' := 4) rfl hi dJ0_length_8abf5_1 rfl ?_
  refine j_alenS (pc' := 5) hi dJ0_length_8abf5_4 rfl ?_
  refine j_aload_n (pc' := 6) dJ0_length_8abf5_5 rfl rfl ?_
  refine j_cStri (pc' := 9) hi m_J0_335 (c_J0_coder_7d493 hi) rfl rfl ⟨Nat.le_of_ble_eq_true rfl, Nat.le_of_ble_eq_true rfl⟩ ⟨Nat.zero_le _, Nat.zero_le _⟩ (Nat.le_of_ble_eq_true rfl) dJ0_length_8abf5_6 rfl (fun x1 I1 hq => ?_)
  obtain ⟨rfl, rfl⟩ := hq
  refine j_ishr (pc' := 10) dJ0_length_8abf5_9 rfl ?_
  refine j_reti dJ0_length_8abf5_10 rfl rfl ?_
  have e : ∀ i, i < 5 → nI (jx_ln i) >>> ((0 : Int32) &&& 31) = nI (jx_ln i) := by decide
  exact ⟨e i hi, rfl⟩

set_option maxRecDepth 100000 in
set_option maxHeartbeats 4000000 in
theorem c_X3_wordText {E : jx_E} {l : Launch} {n : Nat} {kd : jx_K} {R : jx_R} {I : jx_I} {w : Nat} (hw : w < 5) : jx_C0 E l yX3_wordText cX3_wordText 1 (some (.object "java/lang/String")) 0 n kd R I [.int (nI w)] (fun r I' => r = some (.ref (E.2.2.2.1 w)) ∧ I' = I) := by
  refine jx_C0.ofJ RX3 [some (.int (nI w))] (by decide) rfl rfl (Nat.le_of_ble_eq_true rfl) rfl ?_
  refine j_iload_n (pc' := 1) dX3_wordText_0 rfl rfl ?_
  by_cases w0 : w = 0
  ·
    subst w0
    refine j_tableIn (tgt := 32) (off := 31) dX3_wordText_1 (by decide) (by decide) (by decide) (by decide) ?_
    refine j_ldc (pc' := 34) (ix := 80) (i := 0) rfl (fun _ _ hE => ⟨_, hE.2.2.1.1⟩) dX3_wordText_32 rfl ?_
    refine j_retA dX3_wordText_34 rfl ?_
    exact ⟨rfl, rfl⟩
  by_cases w1 : w = 1
  ·
    subst w1
    refine j_tableIn (tgt := 35) (off := 34) dX3_wordText_1 (by decide) (by decide) (by decide) (by decide) ?_
    refine j_ldc (pc' := 37) (ix := 82) (i := 1) rfl (fun _ _ hE => ⟨_, hE.2.2.1.2.1⟩) dX3_wordText_35 rfl ?_
    refine j_retA dX3_wordText_37 rfl ?_
    exact ⟨rfl, rfl⟩
  by_cases w2 : w = 2
  ·
    subst w2
    refine j_tableIn (tgt := 38) (off := 37) dX3_wordText_1 (by decide) (by decide) (by decide) (by decide) ?_
    refine j_ldc (pc' := 40) (ix := 84) (i := 2) rfl (fun _ _ hE => ⟨_, hE.2.2.1.2.2.1⟩) dX3_wordText_38 rfl ?_
    refine j_retA dX3_wordText_40 rfl ?_
    exact ⟨rfl, rfl⟩
  by_cases w3 : w = 3
  ·
    subst w3
    refine j_tableIn (tgt := 41) (off := 40) dX3_wordText_1 (by decide) (by decide) (by decide) (by decide) ?_
    refine j_ldc (pc' := 43) (ix := 86) (i := 3) rfl (fun _ _ hE => ⟨_, hE.2.2.1.2.2.2.1⟩) dX3_wordText_41 rfl ?_
    refine j_retA dX3_wordText_43 rfl ?_
    exact ⟨rfl, rfl⟩
  have w4 : w = 4 := by omega
  subst w4
  refine j_tableOut (tgt := 44) dX3_wordText_1 (by decide) (by decide) ?_
  refine j_ldc (pc' := 46) (ix := 88) (i := 4) rfl (fun _ _ hE => ⟨_, hE.2.2.1.2.2.2.2⟩) dX3_wordText_44 rfl ?_
  refine j_retA dX3_wordText_46 rfl ?_
  exact ⟨rfl, rfl⟩

