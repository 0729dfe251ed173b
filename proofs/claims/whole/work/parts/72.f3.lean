/-! ===== the law's loop, its entry ===== -/
theorem j_retiL {E : jx_E} {l : Launch} {cd : ByteArray} {nL : Nat} {ret : Option FieldType} {own : String} {ini : Bool} {Rm : Room} {mc ms n : Nat} {kd : jx_K} {R : jx_R} {I : jx_I} {pc : Nat} {lv : List (Option Value)} {x : Int32} {ty : FieldType} (hd : decode cd pc = .ok (.ireturn, 1)) (hr : ret = some ty) (hn : narrow ty (.int x) = .int x) (h : x = nI 1) : jx_J E l cd nL ret own ini Rm mc ms jx_QL mc ms n kd R I pc lv [.int x] :=
  j_ireturn hd hr hn (by subst h; rfl)
theorem law_i {L i : Nat} (hL : L ≤ 2048) (hi : i ≤ 3000) : (nI L - nI 4 < nI i) ↔ L < i + 4 := by
  have e1 := pk_sub_toInt (a := L) (b := 4) (by omega) (by omega)
  have e2 := pk_sub_toInt (a := i) (b := 0) (by omega) (by omega)
  have e3 : nI i - nI 0 = nI i := pk_sub (Nat.zero_le i)
  rw [e3] at e2
  simp only [Int32.lt_iff_toInt_lt]
  omega
set_option maxRecDepth 100000 in
set_option maxHeartbeats 4000000 in
theorem lp_law {E : jx_E} {l : Launch} {n : Nat} {kd : jx_K} {d m : Nat} (hdm : d + 344 ≤ m) (hL5 : scL E ≤ 2048) : ∀ (z i : Nat) (R : jx_R) (I : jx_I) (B : Nat) (y4 y5 y6 y7 : Option Value), scL E < i + 4 * z + 4 → i ≤ 2052 → LJ kd R I d m B → B + 60000 * z + 70000 < 2147483000 → jx_J E l cL_law 8 ret RL false room_1 351 13484 jx_QL 351 13484 n kd R I 18 [some (.ref (scA E)), some (.ref d), some (.ref m), some (.int (nI i)), y4, y5, y6, y7] [] := by
  intro z
  induction z with
  | zero =>
    intro i R I B y4 y5 y6 y7 hz hi hJ hB
    refine j_iload_n (pc' := 19) dL_law_18 rfl rfl ?_
    refine j_aload_n (pc' := 20) dL_law_19 rfl rfl ?_
    refine j_slen (pc' := 21) dL_law_20 rfl ?_
    refine j_iconst (pc' := 22) (v := nI 4) dL_law_21 rfl rfl ?_
    first | refine j_isubN' (pc' := 23) (by with_reducible rfl) (by with_reducible rfl) (by omega) dL_law_22 rfl ?_ | refine j_isub (pc' := 23) dL_law_22 rfl ?_
    first | refine j_icmp_gtN' (tgt := 844) (pc' := 26) (by with_reducible rfl) (by with_reducible rfl) (by omega) (by omega) dL_law_23 rfl (by decide) (fun c23 => ?_) (fun c23 => ?_) | refine j_icmp_gt (tgt := 844) (pc' := 26) dL_law_23 rfl (by decide) (fun c23 => ?_) (fun c23 => ?_)
    ·
      refine j_iconst (pc' := 845) (v := nI 1) dL_law_844 rfl rfl ?_
      refine j_retiL dL_law_845 rfl (by first | rfl | exact bi_n _) ?_
      rfl
    ·
      exact absurd ((law_i hL5 (by omega)).mpr (by omega)) c23
  | succ z ih =>
    intro i R I B y4 y5 y6 y7 hz hi hJ hB
    refine j_iload_n (pc' := 19) dL_law_18 rfl rfl ?_
    refine j_aload_n (pc' := 20) dL_law_19 rfl rfl ?_
    refine j_slen (pc' := 21) dL_law_20 rfl ?_
    refine j_iconst (pc' := 22) (v := nI 4) dL_law_21 rfl rfl ?_
    first | refine j_isubN' (pc' := 23) (by with_reducible rfl) (by with_reducible rfl) (by omega) dL_law_22 rfl ?_ | refine j_isub (pc' := 23) dL_law_22 rfl ?_
    first | refine j_icmp_gtN' (tgt := 844) (pc' := 26) (by with_reducible rfl) (by with_reducible rfl) (by omega) (by omega) dL_law_23 rfl (by decide) (fun c23 => ?_) (fun c23 => ?_) | refine j_icmp_gt (tgt := 844) (pc' := 26) dL_law_23 rfl (by decide) (fun c23 => ?_) (fun c23 => ?_)
    ·
      refine j_iconst (pc' := 845) (v := nI 1) dL_law_844 rfl rfl ?_
      refine j_retiL dL_law_845 rfl (by first | rfl | exact bi_n _) ?_
      rfl
    ·
      have hi4 : i + 4 ≤ scL E := Nat.not_lt.mp (fun z => c23 ((law_i hL5 (by omega)).mpr z))
      have kk : ∀ (R1 : jx_R) (I1 : jx_I) (z4 z5 z6 z7 : Option Value), LJ kd R1 I1 d m (B + 60000) → jx_J E l cL_law 8 ret RL false room_1 351 13484 jx_QL 351 13484 n kd R1 I1 838 [some (.ref (scA E)), some (.ref d), some (.ref m), some (.int (nI i)), z4, z5, z6, z7] [] := by
        intro R1 I1 z4 z5 z6 z7 hJ1
        refine j_iinc (pc' := 841) (v := nI (i + 4)) (lv' := [_, _, _, _, _, _, _, _]) dL_law_838 rfl rfl (by rw [show Int32.ofInt 4 = nI 4 from by decide]; exact nI_add i 4) (by decide) rfl ?_
        refine j_goto (tgt := 18) dL_law_841 (by decide) ?_
        exact ih (i + 4) R1 I1 (B + 60000) z4 z5 z6 z7 (by omega) (by omega) hJ1 (by omega)
      refine j_aload_n (pc' := 27) dL_law_26 rfl rfl ?_
      refine j_iload_n (pc' := 28) dL_law_27 rfl rfl ?_
      refine j_sld (pc' := 29) rfl (by omega) hL5 dL_law_28 rfl ?_
      refine j_bipush (pc' := 31) (v := nI 31) dL_law_29 rfl rfl ?_
      refine j_iand (pc' := 32) dL_law_31 rfl ?_
      by_cases t0 : scX E i &&& nI 31 = nI 0
      ·
        refine j_tableIn (tgt := 156) (off := 124) dL_law_32 (by rw [t0]; decide) (by rw [t0]; decide) (by rw [t0]; rfl) (by decide) ?_
        exact st_add hdm hJ (by omega) hi4 hL5 kk
      ·
        by_cases t1 : scX E i &&& nI 31 = nI 1
        ·
          refine j_tableIn (tgt := 189) (off := 157) dL_law_32 (by rw [t1]; decide) (by rw [t1]; decide) (by rw [t1]; rfl) (by decide) ?_
          exact st_set hdm hJ (by omega) hi4 hL5 kk
        ·
          by_cases t2 : scX E i &&& nI 31 = nI 2
          ·
            refine j_tableIn (tgt := 232) (off := 200) dL_law_32 (by rw [t2]; decide) (by rw [t2]; decide) (by rw [t2]; rfl) (by decide) ?_
            exact st_setRoot hdm hJ (by omega) hi4 hL5 kk
          ·
            by_cases t3 : scX E i &&& nI 31 = nI 3
            ·
              refine j_tableIn (tgt := 265) (off := 233) dL_law_32 (by rw [t3]; decide) (by rw [t3]; decide) (by rw [t3]; rfl) (by decide) ?_
              exact st_setValue hdm hJ (by omega) hi4 hL5 kk
            ·
              by_cases t4 : scX E i &&& nI 31 = nI 4
              ·
                refine j_tableIn (tgt := 298) (off := 266) dL_law_32 (by rw [t4]; decide) (by rw [t4]; decide) (by rw [t4]; rfl) (by decide) ?_
                exact st_point hdm hJ (by omega) hi4 hL5 kk
              ·
                by_cases t5 : scX E i &&& nI 31 = nI 5
                ·
                  refine j_tableIn (tgt := 331) (off := 299) dL_law_32 (by rw [t5]; decide) (by rw [t5]; decide) (by rw [t5]; rfl) (by decide) ?_
                  exact st_points hdm hJ (by omega) hi4 hL5 kk
                ·
                  by_cases t6 : scX E i &&& nI 31 = nI 6
                  ·
                    refine j_tableIn (tgt := 344) (off := 312) dL_law_32 (by rw [t6]; decide) (by rw [t6]; decide) (by rw [t6]; rfl) (by decide) ?_
                    exact st_setState hdm hJ (by omega) hi4 hL5 kk
                  ·
                    by_cases t7 : scX E i &&& nI 31 = nI 7
                    ·
                      refine j_tableIn (tgt := 367) (off := 335) dL_law_32 (by rw [t7]; decide) (by rw [t7]; decide) (by rw [t7]; rfl) (by decide) ?_
                      exact st_setFlood hdm hJ (by omega) hi4 hL5 kk
                    ·
                      by_cases t8 : scX E i &&& nI 31 = nI 8
                      ·
                        refine j_tableIn (tgt := 410) (off := 378) dL_law_32 (by rw [t8]; decide) (by rw [t8]; decide) (by rw [t8]; rfl) (by decide) ?_
                        exact st_tick hdm hJ (by omega) hi4 hL5 kk
                      ·
                        by_cases t9 : scX E i &&& nI 31 = nI 9
                        ·
                          refine j_tableIn (tgt := 433) (off := 401) dL_law_32 (by rw [t9]; decide) (by rw [t9]; decide) (by rw [t9]; rfl) (by decide) ?_
                          exact st_plant hdm hJ (by omega) hi4 hL5 kk
                        ·
                          by_cases t10 : scX E i &&& nI 31 = nI 10
                          ·
                            refine j_tableIn (tgt := 456) (off := 424) dL_law_32 (by rw [t10]; decide) (by rw [t10]; decide) (by rw [t10]; rfl) (by decide) ?_
                            exact st_ack hdm hJ (by omega) hi4 hL5 kk
                          ·
                            by_cases t11 : scX E i &&& nI 31 = nI 11
                            ·
                              refine j_tableIn (tgt := 479) (off := 447) dL_law_32 (by rw [t11]; decide) (by rw [t11]; decide) (by rw [t11]; rfl) (by decide) ?_
                              exact st_ackAll hdm hJ (by omega) hi4 hL5 kk
                            ·
                              by_cases t12 : scX E i &&& nI 31 = nI 12
                              ·
                                refine j_tableIn (tgt := 492) (off := 460) dL_law_32 (by rw [t12]; decide) (by rw [t12]; decide) (by rw [t12]; rfl) (by decide) ?_
                                exact st_shelve hdm hJ (by omega) hi4 hL5 kk
                              ·
                                by_cases t13 : scX E i &&& nI 31 = nI 13
                                ·
                                  refine j_tableIn (tgt := 525) (off := 493) dL_law_32 (by rw [t13]; decide) (by rw [t13]; decide) (by rw [t13]; rfl) (by decide) ?_
                                  exact st_unshelve hdm hJ (by omega) hi4 hL5 kk
                                ·
                                  by_cases t14 : scX E i &&& nI 31 = nI 14
                                  ·
                                    refine j_tableIn (tgt := 548) (off := 516) dL_law_32 (by rw [t14]; decide) (by rw [t14]; decide) (by rw [t14]; rfl) (by decide) ?_
                                    exact st_list hdm hJ (by omega) hi4 hL5 kk
                                  ·
                                    by_cases t15 : scX E i &&& nI 31 = nI 15
                                    ·
                                      refine j_tableIn (tgt := 571) (off := 539) dL_law_32 (by rw [t15]; decide) (by rw [t15]; decide) (by rw [t15]; rfl) (by decide) ?_
                                      exact st_count hdm hJ (by omega) hi4 hL5 kk
                                    ·
                                      by_cases t16 : scX E i &&& nI 31 = nI 16
                                      ·
                                        refine j_tableIn (tgt := 594) (off := 562) dL_law_32 (by rw [t16]; decide) (by rw [t16]; decide) (by rw [t16]; rfl) (by decide) ?_
                                        exact st_events hdm hJ (by omega) hi4 hL5 kk
                                      ·
                                        by_cases t17 : scX E i &&& nI 31 = nI 17
                                        ·
                                          refine j_tableIn (tgt := 607) (off := 575) dL_law_32 (by rw [t17]; decide) (by rw [t17]; decide) (by rw [t17]; rfl) (by decide) ?_
                                          exact st_event hdm hJ (by omega) hi4 hL5 kk
                                        ·
                                          by_cases t18 : scX E i &&& nI 31 = nI 18
                                          ·
                                            refine j_tableIn (tgt := 640) (off := 608) dL_law_32 (by rw [t18]; decide) (by rw [t18]; decide) (by rw [t18]; rfl) (by decide) ?_
                                            exact st_meanAck hdm hJ (by omega) hi4 hL5 kk
                                          ·
                                            by_cases t19 : scX E i &&& nI 31 = nI 19
                                            ·
                                              refine j_tableIn (tgt := 683) (off := 651) dL_law_32 (by rw [t19]; decide) (by rw [t19]; decide) (by rw [t19]; rfl) (by decide) ?_
                                              exact st_worst hdm hJ (by omega) hi4 hL5 kk
                                            ·
                                              by_cases t20 : scX E i &&& nI 31 = nI 20
                                              ·
                                                refine j_tableIn (tgt := 696) (off := 664) dL_law_32 (by rw [t20]; decide) (by rw [t20]; decide) (by rw [t20]; rfl) (by decide) ?_
                                                exact st_replay hdm hJ (by omega) hi4 hL5 kk
                                              ·
                                                by_cases t21 : scX E i &&& nI 31 = nI 21
                                                ·
                                                  refine j_tableIn (tgt := 729) (off := 697) dL_law_32 (by rw [t21]; decide) (by rw [t21]; decide) (by rw [t21]; rfl) (by decide) ?_
                                                  exact st_leastDeadband hdm hJ (by omega) hi4 hL5 kk
                                                ·
                                                  by_cases t22 : scX E i &&& nI 31 = nI 22
                                                  ·
                                                    refine j_tableIn (tgt := 762) (off := 730) dL_law_32 (by rw [t22]; decide) (by rw [t22]; decide) (by rw [t22]; rfl) (by decide) ?_
                                                    exact st_type hdm hJ (by omega) hi4 hL5 kk
                                                  ·
                                                    by_cases t23 : scX E i &&& nI 31 = nI 23
                                                    ·
                                                      refine j_tableIn (tgt := 785) (off := 753) dL_law_32 (by rw [t23]; decide) (by rw [t23]; decide) (by rw [t23]; rfl) (by decide) ?_
                                                      exact st_clear hdm hJ (by omega) hi4 hL5 kk
                                                    ·
                                                      by_cases t24 : scX E i &&& nI 31 = nI 24
                                                      ·
                                                        refine j_tableIn (tgt := 798) (off := 766) dL_law_32 (by rw [t24]; decide) (by rw [t24]; decide) (by rw [t24]; rfl) (by decide) ?_
                                                        exact st_run hdm hJ (by omega) hi4 hL5 kk
                                                      ·
                                                        by_cases t25 : scX E i &&& nI 31 = nI 25
                                                        ·
                                                          refine j_tableIn (tgt := 811) (off := 779) dL_law_32 (by rw [t25]; decide) (by rw [t25]; decide) (by rw [t25]; rfl) (by decide) ?_
                                                          exact st_undo hdm hJ (by omega) hi4 hL5 kk
                                                        ·
                                                          by_cases t26 : scX E i &&& nI 31 = nI 26
                                                          ·
                                                            refine j_tableIn (tgt := 824) (off := 792) dL_law_32 (by rw [t26]; decide) (by rw [t26]; decide) (by rw [t26]; rfl) (by decide) ?_
                                                            exact st_fingerprint hdm hJ (by omega) hi4 hL5 kk
                                                          ·
                                                            refine j_tableOut (tgt := 838) dL_law_32 (by
                                                              have e0 : (scX E i &&& nI 31).toInt ≠ 0 := fun z => t0 (Int32.toInt_inj.mp (z.trans (by decide)))
                                                              have e1 : (scX E i &&& nI 31).toInt ≠ 1 := fun z => t1 (Int32.toInt_inj.mp (z.trans (by decide)))
                                                              have e2 : (scX E i &&& nI 31).toInt ≠ 2 := fun z => t2 (Int32.toInt_inj.mp (z.trans (by decide)))
                                                              have e3 : (scX E i &&& nI 31).toInt ≠ 3 := fun z => t3 (Int32.toInt_inj.mp (z.trans (by decide)))
                                                              have e4 : (scX E i &&& nI 31).toInt ≠ 4 := fun z => t4 (Int32.toInt_inj.mp (z.trans (by decide)))
                                                              have e5 : (scX E i &&& nI 31).toInt ≠ 5 := fun z => t5 (Int32.toInt_inj.mp (z.trans (by decide)))
                                                              have e6 : (scX E i &&& nI 31).toInt ≠ 6 := fun z => t6 (Int32.toInt_inj.mp (z.trans (by decide)))
                                                              have e7 : (scX E i &&& nI 31).toInt ≠ 7 := fun z => t7 (Int32.toInt_inj.mp (z.trans (by decide)))
                                                              have e8 : (scX E i &&& nI 31).toInt ≠ 8 := fun z => t8 (Int32.toInt_inj.mp (z.trans (by decide)))
                                                              have e9 : (scX E i &&& nI 31).toInt ≠ 9 := fun z => t9 (Int32.toInt_inj.mp (z.trans (by decide)))
                                                              have e10 : (scX E i &&& nI 31).toInt ≠ 10 := fun z => t10 (Int32.toInt_inj.mp (z.trans (by decide)))
                                                              have e11 : (scX E i &&& nI 31).toInt ≠ 11 := fun z => t11 (Int32.toInt_inj.mp (z.trans (by decide)))
                                                              have e12 : (scX E i &&& nI 31).toInt ≠ 12 := fun z => t12 (Int32.toInt_inj.mp (z.trans (by decide)))
                                                              have e13 : (scX E i &&& nI 31).toInt ≠ 13 := fun z => t13 (Int32.toInt_inj.mp (z.trans (by decide)))
                                                              have e14 : (scX E i &&& nI 31).toInt ≠ 14 := fun z => t14 (Int32.toInt_inj.mp (z.trans (by decide)))
                                                              have e15 : (scX E i &&& nI 31).toInt ≠ 15 := fun z => t15 (Int32.toInt_inj.mp (z.trans (by decide)))
                                                              have e16 : (scX E i &&& nI 31).toInt ≠ 16 := fun z => t16 (Int32.toInt_inj.mp (z.trans (by decide)))
                                                              have e17 : (scX E i &&& nI 31).toInt ≠ 17 := fun z => t17 (Int32.toInt_inj.mp (z.trans (by decide)))
                                                              have e18 : (scX E i &&& nI 31).toInt ≠ 18 := fun z => t18 (Int32.toInt_inj.mp (z.trans (by decide)))
                                                              have e19 : (scX E i &&& nI 31).toInt ≠ 19 := fun z => t19 (Int32.toInt_inj.mp (z.trans (by decide)))
                                                              have e20 : (scX E i &&& nI 31).toInt ≠ 20 := fun z => t20 (Int32.toInt_inj.mp (z.trans (by decide)))
                                                              have e21 : (scX E i &&& nI 31).toInt ≠ 21 := fun z => t21 (Int32.toInt_inj.mp (z.trans (by decide)))
                                                              have e22 : (scX E i &&& nI 31).toInt ≠ 22 := fun z => t22 (Int32.toInt_inj.mp (z.trans (by decide)))
                                                              have e23 : (scX E i &&& nI 31).toInt ≠ 23 := fun z => t23 (Int32.toInt_inj.mp (z.trans (by decide)))
                                                              have e24 : (scX E i &&& nI 31).toInt ≠ 24 := fun z => t24 (Int32.toInt_inj.mp (z.trans (by decide)))
                                                              have e25 : (scX E i &&& nI 31).toInt ≠ 25 := fun z => t25 (Int32.toInt_inj.mp (z.trans (by decide)))
                                                              have e26 : (scX E i &&& nI 31).toInt ≠ 26 := fun z => t26 (Int32.toInt_inj.mp (z.trans (by decide)))
                                                              omega) (by decide) ?_
                                                            exact kk _ _ _ _ _ _ (hJ.mono (by omega))
set_option maxRecDepth 100000 in
set_option maxHeartbeats 4000000 in
theorem j_law {E : jx_E} {l : Launch} (hL5 : scL E ≤ 2048) : jx_J E l cL_law 8 ret RL false room_1 351 13484 jx_QL 0 0 0 (fun _ => (11, 0)) (fun _ _ => none) (fun _ _ => 0) 0 [some (.ref (scA E)), none, none, none, none, none, none, none] [] := by
  refine j_newA (pc' := 3) (a := E.2.2.1) nw_L_7 (by omega) (Nat.le_of_ble_eq_true rfl) (Nat.le_of_ble_eq_true rfl) dL_law_0 rfl ?_
  refine j_dup (pc' := 4) dL_law_3 rfl rfl ?_
  refine j_callI (pc' := 7) m_L_9 (c_X5_init (a := E.2.2.1) (va_up_self _ _ _) (va_up_self _ _ _) (by omega)) rfl rfl ⟨Nat.le_of_ble_eq_true rfl, Nat.le_of_ble_eq_true rfl⟩ ⟨(Nat.le_of_ble_eq_true rfl), (Nat.le_of_ble_eq_true rfl)⟩ (Nat.le_of_ble_eq_true rfl) dL_law_4 rfl (fun v1 n1 kd1 R1 I1 hq hn1 => ?_)
  obtain ⟨rfl, f1, s1, g4, g5⟩ := hq
  refine j_astore_n (pc' := 8) (lv' := [_, _, _, _, _, _, _, _]) dL_law_7 rfl (by decide) rfl ?_
  refine j_newA (pc' := 11) (a := E.2.2.1 + 344) nw_L_10 (by omega) (Nat.le_of_ble_eq_true rfl) (Nat.le_of_ble_eq_true rfl) dL_law_8 rfl ?_
  refine j_dup (pc' := 12) dL_law_11 rfl rfl ?_
  refine j_callI (pc' := 15) m_L_12 (c_X6_init (a := E.2.2.1 + 344) (va_up_self _ _ _) (va_up_self _ _ _) (by omega)) rfl rfl ⟨Nat.le_of_ble_eq_true rfl, Nat.le_of_ble_eq_true rfl⟩ ⟨(Nat.le_of_ble_eq_true rfl), (Nat.le_of_ble_eq_true rfl)⟩ (Nat.le_of_ble_eq_true rfl) dL_law_12 rfl (fun v1 n2 kd2 R2 I2 hq2 hn2 => ?_)
  obtain ⟨rfl, f2, s2, i0, i1, i2, i3, i4, i5, i6⟩ := hq2
  refine j_astore_n (pc' := 16) (lv' := [_, _, _, _, _, _, _, _]) dL_law_15 rfl (by decide) rfl ?_
  refine j_iconst (pc' := 17) (v := nI 0) dL_law_16 rfl rfl ?_
  refine j_istore_n (pc' := 18) (lv' := [_, _, _, _, _, _, _, _]) dL_law_17 rfl (by decide) rfl ?_
  obtain ⟨hD, hM, hS⟩ := s1.fin g4 g5 (I2 (E.2.2.1 + 344 + 3)) 0
  have ek : ∀ z, z < E.2.2.1 + 344 → kd2 z = kd1 z := fun z hz => (f2.2 z (by omega)).trans (va_up_ne _ _ (by omega))
  have eR : ∀ z, z < E.2.2.1 + 344 → R2 z = R1 z := fun z hz => (f2.1 z (by omega)).1.trans (va_up_ne _ _ (by omega))
  have eI : ∀ z, z < E.2.2.1 + 344 → I2 z = I1 z := fun z hz => (f2.1 z (by omega)).2.trans (va_up_ne _ _ (by omega))
  have hD2 := hD.cg2 (fun z _ h => ek z h) (fun z _ h => eR z h)
  have hJ : LJ kd2 R2 I2 E.2.2.1 (E.2.2.1 + 344) 0 := by
    refine ⟨fun j => j, 0, 0, hD2, s2, ?_, ?_, ?_, ?_⟩
    · rw [i1]; exact hM.lo hD2 eI
    · rw [i5]; exact hS.fr (fun z _ h => eI z (by omega))
    · rw [i0]; rfl
    · rw [i0]; rfl
  exact lp_law (Nat.le_refl _) hL5 512 0 R2 I2 0 none none none none (by omega) (by omega) hJ (by omega)
