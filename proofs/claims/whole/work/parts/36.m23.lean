/-! ===== a division of ints as floats is a number ===== -/
theorem fq_mag {a b : Int32} (hb : b ≠ 0) : (FP.fdiv (FP.i2f a) (FP.i2f b)).toNat % 2 ^ 31 < 161 * 2 ^ 23 := by
  have h1 := FP.Core.i2f_mag a
  have h2 := FP.Core.i2f_big (v := b) (FP.Core.int32_ne hb)
  exact FP.Core.fdiv_mag (K := 160) (L := 127) h1 h2.1 h2.2 (by decide) (by decide)
theorem fq_fin {a b : Int32} (hb : b ≠ 0) : FP.Core.FFin (FP.fdiv (FP.i2f a) (FP.i2f b)) := by
  have := fq_mag (a := a) hb
  rw [FP.Core.fin_bits32]
  omega
theorem fq_n32 {a b : Int32} (hb : b ≠ 0) : vf_n32 (FP.fdiv (FP.i2f a) (FP.i2f b)) := by
  have := fq_mag (a := a) hb
  unfold vf_n32
  rw [UInt32.le_iff_toNat_le, FP.Core.mask_toNat32]
  have e : (2139095040 : UInt32).toNat = 2139095040 := rfl
  rw [e]
  omega
theorem fq_d {r : UInt32} (h : FP.Core.FFin r) : vf_n64 (FP.f2d r) ∧ FP.dcmp (FP.f2d r) (FP.f2d r) = some .eq := by
  have h1 : FP.Core.DFin (FP.f2d r) := by
    have e : FP.f2d r = FP.Core.f2d r := by
      unfold FP.f2d
      rw [h.notNaN]
      rfl
    rw [e]
    exact FP.Core.f2d_fin h
  refine ⟨?_, FP.Core.dcmp_refl h1.notNaN⟩
  have h2 := (FP.Core.fin_bits _).mp h1
  unfold vf_n64
  rw [UInt64.le_iff_toNat_le, FP.Core.mask_toNat]
  have e : (9218868437227405312 : UInt64).toNat = 9218868437227405312 := rfl
  rw [e]
  omega
theorem fq_0 : FP.Core.FFin 0 := by
  rw [FP.Core.fin_bits32]
  decide

def fMean (v : Nat → Int32) : UInt32 := if v 11 = 0 then 0 else FP.fdiv (FP.i2f (v 10)) (FP.i2f (v 11))
theorem fMean_fin {v : Nat → Int32} : FP.Core.FFin (fMean v) := by
  unfold fMean
  split
  · exact fq_0
  · rename_i h
    exact fq_fin h

set_option maxRecDepth 100000 in
set_option maxHeartbeats 4000000 in
theorem c_X6_meanAck {E : jx_E} {l : Launch} {n : Nat} {kd : jx_K} {R : jx_R} {I0 : jx_I} {m : Nat} {F v a p o t c : Nat → Int32} (hs : sMd kd R m) : jx_C0 E l yX6_meanAck cX6_meanAck 1 (some .float) 0 n kd R (mI I0 m F v a p o t c) [.ref m] (fun r I' => r = some (.float (fMean v)) ∧ I' = mI I0 m F v a p o t c) := by
  obtain ⟨K0, K1, K2, K3, K4, K5, K6, R0, R1, R2, R4, R6, R10⟩ := id hs
  refine jx_C0.ofJ RX6 [some (.ref m)] (by decide) rfl rfl (Nat.le_of_ble_eq_true rfl) rfl ?_
  refine j_aload_n (pc' := 1) dX6_meanAck_0 rfl rfl ?_
  refine j_getR (pc' := 4) f_X6_7 (by assumption) (by assumption) dX6_meanAck_1 rfl ?_
  refine j_bipush (pc' := 6) (v := nI 11) dX6_meanAck_4 rfl rfl ?_
  refine j_ialdv (pc' := 7) (by assumption) rfl (by omega) (by omega) (by first | (simp (disch := omega) only [jx_upS, jx_upK, jx_upA, mI_0, mI_1, mI_2, mI_3, mI_4, mI_5, mI_6, pk_us, pk_un]; rfl) | rfl) dX6_meanAck_6 rfl ?_
  first | refine j_if_neB' (tgt := 14) (pc' := 10) (by with_reducible rfl) dX6_meanAck_7 rfl (by decide) (fun c7 => ?_) (fun c7 => ?_) | refine j_if_neN' (tgt := 14) (pc' := 10) (by with_reducible rfl) (by omega) dX6_meanAck_7 rfl (by decide) (fun c7 => ?_) (fun c7 => ?_) | refine j_if_ne (tgt := 14) (pc' := 10) dX6_meanAck_7 rfl (by decide) (fun c7 => ?_) (fun c7 => ?_)
  ·
    refine j_aload_n (pc' := 15) dX6_meanAck_14 rfl rfl ?_
    refine j_getR (pc' := 18) f_X6_7 (by assumption) (by assumption) dX6_meanAck_15 rfl ?_
    refine j_bipush (pc' := 20) (v := nI 10) dX6_meanAck_18 rfl rfl ?_
    refine j_ialdv (pc' := 21) (by assumption) rfl (by omega) (by omega) (by first | (simp (disch := omega) only [jx_upS, jx_upK, jx_upA, mI_0, mI_1, mI_2, mI_3, mI_4, mI_5, mI_6, pk_us, pk_un]; rfl) | rfl) dX6_meanAck_20 rfl ?_
    refine j_i2f (pc' := 22) dX6_meanAck_21 rfl ?_
    refine j_aload_n (pc' := 23) dX6_meanAck_22 rfl rfl ?_
    refine j_getR (pc' := 26) f_X6_7 (by assumption) (by assumption) dX6_meanAck_23 rfl ?_
    refine j_bipush (pc' := 28) (v := nI 11) dX6_meanAck_26 rfl rfl ?_
    refine j_ialdv (pc' := 29) (by assumption) rfl (by omega) (by omega) (by first | (simp (disch := omega) only [jx_upS, jx_upK, jx_upA, mI_0, mI_1, mI_2, mI_3, mI_4, mI_5, mI_6, pk_us, pk_un]; rfl) | rfl) dX6_meanAck_28 rfl ?_
    refine j_i2f (pc' := 30) dX6_meanAck_29 rfl ?_
    refine j_fdiv (pc' := 31) dX6_meanAck_30 rfl (fq_n32 c7) ?_
    refine j_retF dX6_meanAck_31 rfl ?_
    exact ⟨by rw [fMean, if_neg c7], rfl⟩
  ·
    skip
    refine j_fconst0 (pc' := 11) dX6_meanAck_10 rfl ?_
    refine j_goto (tgt := 31) dX6_meanAck_11 (by decide) ?_
    refine j_retF dX6_meanAck_31 rfl ?_
    exact ⟨by rw [fMean, if_pos c7], rfl⟩
