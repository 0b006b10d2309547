/-! numbers of the machine: when an answer is a number -/
theorem fp_vf {r : UInt64} (h : FP.Core.dIsNaN r = false) : vf_n64 r := by
  unfold vf_n64
  have h1 : ¬ 9218868437227405312 < r.toNat % 2 ^ 63 := fun z => by
    rw [← FP.Core.isNaN_bits, h] at z
    cases z
  rw [UInt64.le_iff_toNat_le, FP.Core.mask_toNat]
  exact Nat.not_lt.mp h1
theorem fp_nI_ne {g : Nat} (h0 : g ≠ 0) (h : g < 2 ^ 31) : nI g ≠ 0 := fun z => h0 ((g_z0 h).mp z)
theorem fp_i2dz {g : Nat} (h0 : g ≠ 0) (h : g < 2 ^ 31) : ¬ FP.Core.DZero (FP.i2d (nI g)) := fun z => FP.Core.i2d_ne_zero (fp_nI_ne h0 h) ((FP.Core.zero_bits2 _).mp z)
theorem fp_rate (c : Nat) {g : Nat} (h0 : g ≠ 0) (h : g < 2 ^ 31) : vf_n64 (FP.ddiv (FP.i2d (nI c)) (FP.i2d (nI g))) := fp_vf (FP.Core.ddiv_out (FP.Core.DFin.notNaN (FP.Core.i2d_fin _)) (FP.Core.i2d_fin _) (fp_i2dz h0 h))
theorem fp_lN_ne {g : Nat} (h0 : g ≠ 0) (h : g < 2 ^ 63) : lN g ≠ 0 := fun z => h0 ((pk_lEQ (b := 0) h (by decide)).mp z)
theorem fp_l2dz {g : Nat} (h0 : g ≠ 0) (h : g < 2 ^ 63) : ¬ FP.Core.DZero (FP.l2d (lN g)) := fun z => FP.Core.l2d_ne_zero (fp_lN_ne h0 h) ((FP.Core.zero_bits2 _).mp z)
theorem fp_shareI (c : Nat) {g : Nat} (h0 : g ≠ 0) (h : g < 2 ^ 63) : vf_n64 (FP.ddiv (FP.i2d (nI c)) (FP.l2d (lN g))) := fp_vf (FP.Core.ddiv_out (FP.Core.DFin.notNaN (FP.Core.i2d_fin _)) (FP.Core.l2d_fin _) (fp_l2dz h0 h))
theorem fp_shareL (c : Nat) {g : Nat} (h0 : g ≠ 0) (h : g < 2 ^ 63) : vf_n64 (FP.ddiv (FP.l2d (lN c)) (FP.l2d (lN g))) := fp_vf (FP.Core.ddiv_out (FP.Core.DFin.notNaN (FP.Core.l2d_fin _)) (FP.Core.l2d_fin _) (fp_l2dz h0 h))
theorem fp_divI {q : UInt64} {n : Nat} (hq : FP.Core.dIsNaN q = false) (h0 : n ≠ 0) (h : n < 2 ^ 31) : vf_n64 (FP.ddiv q (FP.i2d (nI n))) := fp_vf (FP.Core.ddiv_out hq (FP.Core.i2d_fin _) (fp_i2dz h0 h))
