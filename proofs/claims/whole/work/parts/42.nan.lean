/-! what the law asks of two means -/
theorem k_nan_none {r : UInt64} (h : isNaN64 r = true) : FP.dcmp r r = none := by
  have h1 : ¬ r &&& 0x7fffffffffffffff ≤ 0x7ff0000000000000 := by
    simpa [isNaN64] using h
  have h2 : 0x7ff0000000000000 < r.toNat &&& 0x7fffffffffffffff := by
    have := UInt64.not_le.mp h1
    rw [UInt64.lt_iff_toNat_lt, UInt64.toNat_and] at this
    exact this
  have h3 : r.toNat &&& 0x7fffffffffffffff = r.toNat % 9223372036854775808 := Nat.and_two_pow_sub_one_eq_mod r.toNat 63
  rw [h3] at h2
  have hd : FP.Core.decode FP.Core.b64 r.toNat = .nan := by
    unfold FP.Core.decode
    have e1 : FP.Core.fieldE FP.Core.b64 r.toNat = FP.Core.b64.exps - 1 := by
      show r.toNat / 4503599627370496 % 2048 = 2047
      omega
    have e2 : ¬ FP.Core.fieldT FP.Core.b64 r.toNat = 0 := by
      show ¬ r.toNat % 4503599627370496 = 0
      omega
    rw [if_pos e1, if_neg e2]
  show FP.Core.order (FP.Core.decode FP.Core.b64 r.toNat) (FP.Core.decode FP.Core.b64 r.toNat) = none
  rw [hd]
  rfl
