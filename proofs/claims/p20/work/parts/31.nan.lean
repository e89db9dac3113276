/-! what the law asks of two means -/
theorem k_nan_none {r : UInt64} (h : isNaN64 r = true) : FP.dcmp r r = none := by
  have h1 : ¬ r &&& 0x7fffffffffffffff ≤ 0x7ff0000000000000 := by
    simpa [isNaN64] using h
  have h2 : 0x7ff0000000000000 < r.toNat &&& 0x7fffffffffffffff := by
    have := UInt64.not_le.mp h1
    rw [UInt64.lt_iff_toNat_lt, UInt64.toNat_and] at this
    exact this
  have h3 : r.toNat &&& 0x7fffffffffffffff = r.toNat % 9223372036854775808 := Nat.and_two_pow_sub_one_eq_mod r.toNat 63
  rw [h3] at h2
  have hd : FP.Core.decode FP.Core.b64 r.toNat = .nan := by
    unfold FP.Core.decode
    have e1 : FP.Core.fieldE FP.Core.b64 r.toNat = FP.Core.b64.exps - 1 := by
      show r.toNat / 4503599627370496 % 2048 = 2047
      omega
    have e2 : ¬ FP.Core.fieldT FP.Core.b64 r.toNat = 0 := by
      show ¬ r.toNat % 4503599627370496 = 0
      omega
    rw [if_pos e1, if_neg e2]
  show FP.Core.order (FP.Core.decode FP.Core.b64 r.toNat) (FP.Core.decode FP.Core.b64 r.toNat) = none
  rw [hd]
  rfl
theorem k_mean_v {N : Nat} {K : Nat → Nat → Int32} : FP.Core.val64 (k_mean N K) ≠ .nan := by
  unfold k_mean
  by_cases h : k_goSum N K = 0
  · rw [if_pos h]
    exact (FP.Core.notNaN_iff _).mp (by decide)
  · rw [if_neg h]
    exact (FP.Core.notNaN_iff _).mp (FP.Core.ddiv_out (FP.Core.i2d_fin _).notNaN (FP.Core.i2d_fin _) (fun z => FP.Core.i2d_ne_zero h ((FP.Core.zero_bits2 _).mp z)))
theorem k_cmp_self {r : UInt64} (h : FP.Core.val64 r ≠ .nan) : FP.dcmp r r = some .eq := by
  show FP.Core.order (FP.Core.val64 r) (FP.Core.val64 r) = some .eq
  revert h
  cases FP.Core.val64 r with
  | nan => intro h; exact absurd rfl h
  | inf s => intro _; simp [FP.Core.order]
  | fin s c q => intro _; simp [FP.Core.order]
theorem k_mean_same {N : Nat} {K : Nat → Nat → Int32} {r1 r2 : UInt64} (h1 : alike64 r1 (k_mean N K) = true) (h2 : alike64 r2 (k_mean N K) = true) : Op.cmpValue (FP.dcmp r1 r2) .l = 0 := by
  have hs := k_cmp_self (k_mean_v (N := N) (K := K))
  have hn : ¬ isNaN64 (k_mean N K) = true := fun z => by
    rw [k_nan_none z] at hs
    cases hs
  have hc : ∀ r : UInt64, alike64 r (k_mean N K) = true → r = k_mean N K := by
    intro r hr
    have h3 : r = k_mean N K ∨ (isNaN64 r = true ∧ isNaN64 (k_mean N K) = true) := by simpa [alike64] using hr
    exact h3.resolve_right (fun z => hn z.2)
  rw [hc r1 h1, hc r2 h2, hs]
  decide
theorem cu_callD {p : Program} {l : Launch} {e : Env} {R : Room} {s : State} {m : MethodId} {args : Array Value} {below : List Frame} {meth : Method} {c : Code} {H : Heap} {locs : List Loc} {cells slots : Nat} {Q : State → Prop} {pc : Nat} {ls : Array Slot} {rest st0 : List Value} {a : Array Value} {A : Nat → Prop} {H0 : Heap} {mc ms : Nat} {D : va_G} {W0 w W1 w' : va_W} {val : UInt64} {d0 : Drawn} (hd0 : s.drawn.sameBut d0 lw_cs)
    (hr : va_RunD lw_cs p l e R (s.setDrawn d0) m args below meth c H locs cells slots mc ms (F0 m pc ls st0) rest (va_Qd (fun (r : UInt64) (_ : Unit) => alike64 r val = true) (fun _ t => va_P D vwCl w' t.heap) (va_A w H.size) a) (va_A w H.size)) (sp : cu_sp W0 w W1 w') (hP : va_P D vwCl W0 H) (hD : va_D A W0) (hS : va_S A H0 H locs) (hA : ∀ q : Nat, H0.size ≤ q → A q)
    (kk : ∀ (r : UInt64) (H1 : Heap) (locs1 : List Loc) (d1 : Drawn), s.drawn.sameBut d1 lw_cs → alike64 r val = true → va_P D vwCl W1 H1 → va_D A W1 → va_S A H0 H1 locs1 → W p l e R (s.setDrawn d1) m args below meth c H1 locs1 (cells + mc) (slots + ms) Q (F0 m (pc + 3) ls (.double r :: rest))) : W p l e R (s.setDrawn d0) m args below meth c H locs cells slots Q (F0 m pc ls st0) := by
  have hF := sp.F hD hS hA
  refine va_calldD hd0 hr hS (fun q _ h => hF q h) hF (fun r u t H1 locs1 ht _ hpost hB hz hk hS1 d1 hd1 => ?_)
  rw [ht] at hB
  exact kk r H1 locs1 d1 hd1 hpost (sp.join hP hD hk hB) (cu_D_fst sp.fst hD) hS1
