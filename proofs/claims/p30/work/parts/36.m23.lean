/-! ===== a division of ints as floats is a number ===== -/
theorem fq_mag {a b : Int32} (hb : b ≠ 0) : (FP.fdiv (FP.i2f a) (FP.i2f b)).toNat % 2 ^ 31 < 161 * 2 ^ 23 := by
  have h1 := FP.Core.i2f_mag a
  have h2 := FP.Core.i2f_big (v := b) (FP.Core.int32_ne hb)
  exact FP.Core.fdiv_mag (K := 160) (L := 127) h1 h2.1 h2.2 (by decide) (by decide)
theorem fq_fin {a b : Int32} (hb : b ≠ 0) : FP.Core.FFin (FP.fdiv (FP.i2f a) (FP.i2f b)) := by
  have := fq_mag (a := a) hb
  rw [FP.Core.fin_bits32]
  omega
theorem fq_n32 {a b : Int32} (hb : b ≠ 0) : vf_n32 (FP.fdiv (FP.i2f a) (FP.i2f b)) := by
  have := fq_mag (a := a) hb
  unfold vf_n32
  rw [UInt32.le_iff_toNat_le, FP.Core.mask_toNat32]
  have e : (2139095040 : UInt32).toNat = 2139095040 := rfl
  rw [e]
  omega
theorem fq_d {r : UInt32} (h : FP.Core.FFin r) : vf_n64 (FP.f2d r) ∧ FP.dcmp (FP.f2d r) (FP.f2d r) = some .eq := by
  have h1 : FP.Core.DFin (FP.f2d r) := by
    have e : FP.f2d r = FP.Core.f2d r := by
      unfold FP.f2d
      rw [h.notNaN]
      rfl
    rw [e]
    exact FP.Core.f2d_fin h
  refine ⟨?_, FP.Core.dcmp_refl h1.notNaN⟩
  have h2 := (FP.Core.fin_bits _).mp h1
  unfold vf_n64
  rw [UInt64.le_iff_toNat_le, FP.Core.mask_toNat]
  have e : (9218868437227405312 : UInt64).toNat = 9218868437227405312 := rfl
  rw [e]
  omega
theorem fq_0 : FP.Core.FFin 0 := by
  rw [FP.Core.fin_bits32]
  decide

def fMean (v : Nat → Int32) : UInt32 := if v 11 = 0 then 0 else FP.fdiv (FP.i2f (v 10)) (FP.i2f (v 11))
theorem fMean_fin {v : Nat → Int32} : FP.Core.FFin (fMean v) := by
  unfold fMean
  split
  · exact fq_0
  · rename_i h
    exact fq_fin h
