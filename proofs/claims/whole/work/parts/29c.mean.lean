/-! PURE 7: the mean payment is a number -/
theorem nn_of {r : UInt64} (h : r.toNat % 2 ^ 63 ≤ 9218868437227405312) : vf_n64 r := by
  unfold vf_n64
  rw [UInt64.le_iff_toNat_le, UInt64.toNat_and]
  show r.toNat &&& (2 ^ 63 - 1) ≤ 9218868437227405312
  rw [Nat.and_two_pow_sub_one_eq_mod]
  exact h
theorem mean_nn {p c : Nat} (hc : 1 ≤ c) (hc2 : c ≤ 600) : vf_n64 (FP.ddiv (FP.l2d (nJ p)) (FP.i2d (nI c))) := by
  have e : (nI c : Int32) ≠ 0 := fun q => by rw [n0_eq (by omega)] at q; omega
  have h1 := Jvm.FP.Core.i2d_ne_zero e
  have h2 := Jvm.FP.Core.ddiv_out (a := FP.l2d (nJ p)) (b := FP.i2d (nI c)) ?_ (Jvm.FP.Core.i2d_fin _) ?_
  · exact nn_of (Nat.le_of_not_lt fun q => by have := (Jvm.FP.Core.isNaN_bits (FP.ddiv (FP.l2d (nJ p)) (FP.i2d (nI c)))).mpr q; rw [h2] at this; cases this)
  · exact (Jvm.FP.Core.l2d_fin _).notNaN
  · exact fun q => h1 ((Jvm.FP.Core.zero_bits2 _).mp q)
