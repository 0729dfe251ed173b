theorem jx_Ct.ofJF {E : jx_E} {l : Launch} {y : MethodName} {cd : ByteArray} {nL : Nat} {ret : Option FieldType} {d mc ms n : Nat} {kd : jx_K} {R : jx_R} {I : jx_I} {as : List Value} {Q : jx_Q} (ini : Bool) (lv : List (Option Value)) (hy : plainFor y = true) (hi : (y.name == "<init>") = ini) (hn : (lg_sl as).length ≤ nL) (hlv : jx_args as ++ List.replicate (nL - (lg_sl as).length) none = lv)
    (k : jx_J E l cd nL ret y.cls ini { frames := d, cells := mc, slots := ms, locals := 32 * d } mc ms Q 0 0 n kd R I 0 lv []) : jx_Ct E l y cd nL ret d mc ms n kd R I as Q := by
  subst hlv
  refine va_MetF (cc := cd) (maxL := nL) (ret := ret) hy rfl ?_
  intro p e s m args below meth c s₁ B hml hv
  obtain ⟨rfl, hE, hB, hW⟩ := hv
  have hts := atoms_spec (ws := .code y cd nL ret :: jx_W) B.pre
  have hlocks := B.notSynchronized
  have hl := lv_entry as (n := nL) hn
  rw [lg_entry_eq]
  refine k p e s m _ below meth c _ ⟨B.exec, B.bytes, B.returns, hlocks, hml, findClass_of_methodNamed B.named, fun h => ?_, fun w h => hts w (List.mem_cons_of_mem _ h), hE, by omega⟩ ?_ s.heap [] _ hB hW va_S.rf ?_
  · rw [(name_of_methodNamed B.named B.method).1]
    rw [h] at hi
    simpa using hi
  · intro v n' kd' R' I' H' locs' pc' ls' hQ hN' hW' hS hr
    rcases hr with ⟨hd, x, ty, rfl, hrt, hnr⟩ | ⟨hd, rfl, hrt⟩ | ⟨hd, a, nm, rfl, hrt⟩ | ⟨hd, x, rfl, hrt⟩ | ⟨hd, x, rfl, hrt⟩
    · exact W.zret (ty := ty) B.exec B.bytes (B.returns.trans hrt) hnr (fun t ht _ => ⟨⟨_, n', kd', R', I', rfl, hQ, hN', by rw [ht]; exact hW'⟩, hS.F ht⟩) hS.2.2 hd
    · exact W.vret B.exec B.bytes (B.returns.trans hrt) (fun t ht _ => ⟨⟨_, n', kd', R', I', rfl, hQ, hN', by rw [ht]; exact hW'⟩, hS.F ht⟩) hS.2.2 hd
    · exact W.aret B.exec B.bytes (B.returns.trans hrt) (Or.inl ⟨nm, rfl⟩) (Or.inr ⟨a, rfl⟩) (fun t ht _ => ⟨⟨_, n', kd', R', I', rfl, hQ, hN', by rw [ht]; exact hW'⟩, hS.F ht⟩) hS.2.2 hd
    · exact W.lret B.exec B.bytes (B.returns.trans hrt) (fun t ht _ => ⟨⟨_, n', kd', R', I', rfl, hQ, hN', by rw [ht]; exact hW'⟩, hS.F ht⟩) hS.2.2 hd
    · exact W.fret B.exec B.bytes (B.returns.trans hrt) (fun t ht _ => ⟨⟨_, n', kd', R', I', rfl, hQ, hN', by rw [ht]; exact hW'⟩, hS.F ht⟩) hS.2.2 hd
  · show lv_has _ nL (jx_asc _ 0)
    rw [jx_args_asc]
    exact hl

theorem jx_C0.ofJF {E : jx_E} {l : Launch} {y : MethodName} {cd : ByteArray} {nL : Nat} {ret : Option FieldType} {d n : Nat} {kd : jx_K} {R : jx_R} {I : jx_I} {as : List Value} {P : Option Value → jx_I → Prop} (own : String) (lv : List (Option Value)) (hy : plainFor y = true) (ho : y.cls = own) (hi : (y.name == "<init>") = false) (hn : (lg_sl as).length ≤ nL) (hlv : jx_args as ++ List.replicate (nL - (lg_sl as).length) none = lv)
    (k : jx_J E l cd nL ret own false (jx_rm d) 0 0 (jx_Q0 n kd R P) 0 0 n kd R I 0 lv []) : jx_C0 E l y cd nL ret d n kd R I as P := by
  subst ho
  exact jx_Ct.ofJF false lv hy hi hn hlv k

theorem nI_xor {a b : Nat} : nI a ^^^ nI b = nI (a ^^^ b) := by
  unfold nI
  apply Int32.toBitVec_inj.mp
  simp
theorem xor_n {a b : Nat} (ha : a < 2147483648) (hb : b < 2147483648) : ¬ nI a ^^^ nI b < 0 := by
  rw [nI_xor]
  exact nI_pos (Nat.xor_lt_two_pow (n := 31) ha hb)

set_option maxRecDepth 100000 in
set_option maxHeartbeats 4000000 in
theorem c_floorMod {E : jx_E} {l : Launch} {n : Nat} {kd : jx_K} {R : jx_R} {I : jx_I} {a b : Nat} (ha : a < 2147483648) (hb0 : 0 < b) (hb : b < 2147483648) : jx_Ci E l yJ9_floorMod_7cf53 cJ9_floorMod_7cf53 3 (some .int) 0 n kd R (I) [.int (nI a), .int (nI b)] (fun r I' => r = (nI (a % b)) ∧ I' = I) := by
  refine jx_C0.ofJF RJ9 [some (.int (nI a)), some (.int (nI b)), none] (by decide +kernel) rfl rfl (Nat.le_of_ble_eq_true rfl) rfl ?_
  refine j_iload_n (pc' := 1) dJ9_floorMod_7cf53_0 rfl rfl ?_
  refine j_iload_n (pc' := 2) dJ9_floorMod_7cf53_1 rfl rfl ?_
  refine j_iremN' (pc' := 3) (by with_reducible rfl) (by with_reducible rfl) (by omega) (by omega) (by omega) dJ9_floorMod_7cf53_2 rfl ?_
  refine j_istore_n (pc' := 4) (lv' := [_, _, _]) dJ9_floorMod_7cf53_3 rfl (by decide) rfl ?_
  refine j_iload_n (pc' := 5) dJ9_floorMod_7cf53_4 rfl rfl ?_
  refine j_iload_n (pc' := 6) dJ9_floorMod_7cf53_5 rfl rfl ?_
  refine j_ixor (pc' := 7) dJ9_floorMod_7cf53_6 rfl ?_
  first | refine j_if_geN' (tgt := 18) (pc' := 10) (by with_reducible rfl) (by omega) dJ9_floorMod_7cf53_7 rfl (by decide) (fun c7 => ?_) (fun c7 => ?_) | refine j_if_ge (tgt := 18) (pc' := 10) dJ9_floorMod_7cf53_7 rfl (by decide) (fun c7 => ?_) (fun c7 => ?_)
  ·
    refine j_iload_n (pc' := 19) dJ9_floorMod_7cf53_18 rfl rfl ?_
    refine j_reti dJ9_floorMod_7cf53_19 rfl (by first | rfl | exact bi_n _) ?_
    exact ⟨rfl, rfl⟩
  ·
    exact absurd (Int32.not_le.mp c7) (xor_n ha hb)

set_option maxRecDepth 100000 in
set_option maxHeartbeats 4000000 in
theorem c_min {E : jx_E} {l : Launch} {n : Nat} {kd : jx_K} {R : jx_R} {I : jx_I} {a b : Nat} (ha : a < 2147483648) (hb : b < 2147483648) : jx_Ci E l yJ9_min_7cf53 cJ9_min_7cf53 2 (some .int) 0 n kd R (I) [.int (nI a), .int (nI b)] (fun r I' => r = (nI (if a < b then a else b)) ∧ I' = I) := by
  refine jx_C0.ofJF RJ9 [some (.int (nI a)), some (.int (nI b))] (by decide +kernel) rfl rfl (Nat.le_of_ble_eq_true rfl) rfl ?_
  refine j_iload_n (pc' := 1) dJ9_min_7cf53_0 rfl rfl ?_
  refine j_iload_n (pc' := 2) dJ9_min_7cf53_1 rfl rfl ?_
  first | refine j_icmp_gtN' (tgt := 9) (pc' := 5) (by with_reducible rfl) (by with_reducible rfl) (by omega) (by omega) dJ9_min_7cf53_2 rfl (by decide) (fun c2 => ?_) (fun c2 => ?_) | refine j_icmp_gt (tgt := 9) (pc' := 5) dJ9_min_7cf53_2 rfl (by decide) (fun c2 => ?_) (fun c2 => ?_)
  ·
    refine j_iload_n (pc' := 10) dJ9_min_7cf53_9 rfl rfl ?_
    refine j_reti dJ9_min_7cf53_10 rfl (by first | rfl | exact bi_n _) ?_
    refine ⟨?_, rfl⟩
    split
    · first | rfl | omega
    · first | rfl | exact congrArg nI (by omega)
  ·
    refine j_iload_n (pc' := 6) dJ9_min_7cf53_5 rfl rfl ?_
    refine j_goto (tgt := 10) dJ9_min_7cf53_6 (by decide) ?_
    refine j_reti dJ9_min_7cf53_10 rfl (by first | rfl | exact bi_n _) ?_
    refine ⟨?_, rfl⟩
    split
    · first | rfl | omega
    · first | rfl | exact congrArg nI (by omega)
