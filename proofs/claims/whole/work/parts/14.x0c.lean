set_option maxHeartbeats 4000000 in
set_option maxRecDepth 100000 in
theorem m_X0_mixInto (l : Launch) (D : va_G) (C : Nat → ClassId) (h0 : Nat) (K : Nat → Int32) (v1 : Int64) : cu_L l D C yX0_mixInto wsX0_mixInto { frames := 3, cells := 0, slots := 0, locals := 64 } [.ref h0, .long v1] (cu_wc h0 K) (cu_wc h0 K) (k_mix K v1) 0 0 := by
  refine cu_openL (cc := cX0_mixInto) (maxL := 6) (own := RX0) (by decide) rfl rfl (Nat.le_of_ble_eq_true rfl) ?_
  intro p e s m args below meth c A Z H0 ls e0 hx hb hml hts hown hnm hG hP hD hS hA hl fin
  have hK := hG.1
  have hl : lv_has ls 6 [(0, .ref h0), (1, .long v1)] := hl
  have hiX0 : ∀ w ∈ wsX00, w ∈ wsX0_mixInto := by decide +kernel
  refine lv_lload_n hx hb dX0_mixInto_0 rfl (lv_at hl 1 rfl) ?_
  refine lv_lstore_n (lv' := [(3, .long v1), (0, .ref h0), (1, .long v1)]) hx hb dX0_mixInto_1 rfl hl (by decide) rfl (fun ls hl => ?_)
  refine lv_lload_n hx hb dX0_mixInto_2 rfl (lv_at hl 0 rfl) ?_
  refine lv_ldc2 (v := 31) hx hb hown (hts (.constantLong RX0 90 (31)) (by decide +kernel)) dX0_mixInto_3 ?_
  refine lv_lmul hx hb dX0_mixInto_6 ?_
  refine lv_aload_n hx hb dX0_mixInto_7 rfl (lv_at hl 1 rfl) ?_
  refine va_get (D := D) (ci := 0) (v := .int (K 9)) (C := RX0) (T := TX0) (N := 14) hx hb hts hiX0 hown hK hP 0 rfl rfl 0 (by decide) (hts (.fieldLink RX0 9 "CuckooShop$Clock" "gearA" "I") (by decide +kernel)) (fun _ h9 => h9) rfl dX0_mixInto_8 ?_
  refine lv_i2l (v := (K 9).toInt64) hx hb dX0_mixInto_11 rfl ?_
  refine lv_ladd hx hb dX0_mixInto_12 ?_
  refine lv_lstore_n (lv' := [(3, .long ((v1 * 31) + (K 9).toInt64)), (0, .ref h0), (1, .long v1)]) hx hb dX0_mixInto_13 rfl hl (by decide) rfl (fun ls hl => ?_)
  refine lv_lload_n hx hb dX0_mixInto_14 rfl (lv_at hl 0 rfl) ?_
  refine lv_ldc2 (v := 31) hx hb hown (hts (.constantLong RX0 90 (31)) (by decide +kernel)) dX0_mixInto_15 ?_
  refine lv_lmul hx hb dX0_mixInto_18 ?_
  refine lv_aload_n hx hb dX0_mixInto_19 rfl (lv_at hl 1 rfl) ?_
  refine va_get (D := D) (ci := 0) (v := .int (K 10)) (C := RX0) (T := TX0) (N := 14) hx hb hts hiX0 hown hK hP 0 rfl rfl 1 (by decide) (hts (.fieldLink RX0 15 "CuckooShop$Clock" "gearB" "I") (by decide +kernel)) (fun _ h9 => h9) rfl dX0_mixInto_20 ?_
  refine lv_i2l (v := (K 10).toInt64) hx hb dX0_mixInto_23 rfl ?_
  refine lv_ladd hx hb dX0_mixInto_24 ?_
  refine lv_lstore_n (lv' := [(3, .long ((((v1 * 31) + (K 9).toInt64) * 31) + (K 10).toInt64)), (0, .ref h0), (1, .long v1)]) hx hb dX0_mixInto_25 rfl hl (by decide) rfl (fun ls hl => ?_)
  refine lv_lload_n hx hb dX0_mixInto_26 rfl (lv_at hl 0 rfl) ?_
  refine lv_ldc2 (v := 31) hx hb hown (hts (.constantLong RX0 90 (31)) (by decide +kernel)) dX0_mixInto_27 ?_
  refine lv_lmul hx hb dX0_mixInto_30 ?_
  refine lv_aload_n hx hb dX0_mixInto_31 rfl (lv_at hl 1 rfl) ?_
  refine va_get (D := D) (ci := 0) (v := .int (K 11)) (C := RX0) (T := TX0) (N := 14) hx hb hts hiX0 hown hK hP 0 rfl rfl 2 (by decide) (hts (.fieldLink RX0 18 "CuckooShop$Clock" "swing" "I") (by decide +kernel)) (fun _ h9 => h9) rfl dX0_mixInto_32 ?_
  refine lv_i2l (v := (K 11).toInt64) hx hb dX0_mixInto_35 rfl ?_
  refine lv_ladd hx hb dX0_mixInto_36 ?_
  refine lv_lstore_n (lv' := [(3, .long ((((((v1 * 31) + (K 9).toInt64) * 31) + (K 10).toInt64) * 31) + (K 11).toInt64)), (0, .ref h0), (1, .long v1)]) hx hb dX0_mixInto_37 rfl hl (by decide) rfl (fun ls hl => ?_)
  refine lv_lload_n hx hb dX0_mixInto_38 rfl (lv_at hl 0 rfl) ?_
  refine lv_ldc2 (v := 31) hx hb hown (hts (.constantLong RX0 90 (31)) (by decide +kernel)) dX0_mixInto_39 ?_
  refine lv_lmul hx hb dX0_mixInto_42 ?_
  refine lv_aload_n hx hb dX0_mixInto_43 rfl (lv_at hl 1 rfl) ?_
  refine va_get (D := D) (ci := 0) (v := .int (K 12)) (C := RX0) (T := TX0) (N := 14) hx hb hts hiX0 hown hK hP 0 rfl rfl 9 (by decide) (hts (.fieldLink RX0 40 "CuckooShop$Clock" "shutFrom" "I") (by decide +kernel)) (fun _ h9 => h9) rfl dX0_mixInto_44 ?_
  refine lv_i2l (v := (K 12).toInt64) hx hb dX0_mixInto_47 rfl ?_
  refine lv_ladd hx hb dX0_mixInto_48 ?_
  refine lv_lstore_n (lv' := [(3, .long ((((((((v1 * 31) + (K 9).toInt64) * 31) + (K 10).toInt64) * 31) + (K 11).toInt64) * 31) + (K 12).toInt64)), (0, .ref h0), (1, .long v1)]) hx hb dX0_mixInto_49 rfl hl (by decide) rfl (fun ls hl => ?_)
  refine lv_lload_n hx hb dX0_mixInto_50 rfl (lv_at hl 0 rfl) ?_
  refine lv_ldc2 (v := 31) hx hb hown (hts (.constantLong RX0 90 (31)) (by decide +kernel)) dX0_mixInto_51 ?_
  refine lv_lmul hx hb dX0_mixInto_54 ?_
  refine lv_aload_n hx hb dX0_mixInto_55 rfl (lv_at hl 1 rfl) ?_
  refine va_get (D := D) (ci := 0) (v := .int (K 13)) (C := RX0) (T := TX0) (N := 14) hx hb hts hiX0 hown hK hP 0 rfl rfl 10 (by decide) (hts (.fieldLink RX0 43 "CuckooShop$Clock" "shutTill" "I") (by decide +kernel)) (fun _ h9 => h9) rfl dX0_mixInto_56 ?_
  refine lv_i2l (v := (K 13).toInt64) hx hb dX0_mixInto_59 rfl ?_
  refine lv_ladd hx hb dX0_mixInto_60 ?_
  refine lv_lstore_n (lv' := [(3, .long ((((((((((v1 * 31) + (K 9).toInt64) * 31) + (K 10).toInt64) * 31) + (K 11).toInt64) * 31) + (K 12).toInt64) * 31) + (K 13).toInt64)), (0, .ref h0), (1, .long v1)]) hx hb dX0_mixInto_61 rfl hl (by decide) rfl (fun ls hl => ?_)
  refine lv_iconst (v := 0) hx hb dX0_mixInto_62 (by decide) ?_
  refine lv_istore (lv' := [(5, .int 0), (3, .long ((((((((((v1 * 31) + (K 9).toInt64) * 31) + (K 10).toInt64) * 31) + (K 11).toInt64) * 31) + (K 12).toInt64) * 31) + (K 13).toInt64)), (0, .ref h0), (1, .long v1)]) hx hb dX0_mixInto_63 hl (by decide) rfl (fun ls hl => ?_)
  have loop : ∀ (j : Nat), ∀ (i : Nat) (dd : Int64), i + j = 11 → k_mixR K j i dd = k_mix K v1 → ∀ (H : Heap) (locs : List Loc) (ls : Array Slot), va_P D vwCl (cu_wc h0 K) H → va_D A (cu_wc h0 K) → va_S A H0 H locs → lv_has ls 6 [(0, .ref h0), (5, .int (nI i)), (3, .long dd)] → W p l e { frames := 3, cells := 0, slots := 0, locals := 64 } s m args below meth c H locs 0 0 Z (F0 m 65 ls []) := by
    intro j
    induction j with
    | zero =>
      intro i dd hj hf H locs ls hP hD hS hl
      refine lv_iload hx hb dX0_mixInto_65 (lv_at hl 1 rfl) ?_
      refine lv_bipush (v := 11) hx hb dX0_mixInto_67 (by decide) ?_
      refine lv_icmp_ge (tgt := 92) hx hb dX0_mixInto_69 (by decide) (fun c_69 => ?_) (fun c_69 => absurd (nI_le (a := 11) (by omega) (by omega)) c_69)
      refine lv_lload_n hx hb dX0_mixInto_92 rfl (lv_at hl 2 rfl) ?_
      exact fin _ _ _ _ _ (by exact hf) hP hS dX0_mixInto_93
    | succ j ih =>
      intro i dd hj hf H locs ls hP hD hS hl
      refine lv_iload hx hb dX0_mixInto_65 (lv_at hl 1 rfl) ?_
      refine lv_bipush (v := 11) hx hb dX0_mixInto_67 (by decide) ?_
      refine lv_icmp_ge (tgt := 92) hx hb dX0_mixInto_69 (by decide) (fun c_69 => absurd c_69 (nI_ge (b := 11) (by omega) (by decide))) (fun c_69 => ?_)
      refine lv_lload_n hx hb dX0_mixInto_72 rfl (lv_at hl 2 rfl) ?_
      refine lv_ldc2 (v := 31) hx hb hown (hts (.constantLong RX0 90 (31)) (by decide +kernel)) dX0_mixInto_73 ?_
      refine lv_lmul hx hb dX0_mixInto_76 ?_
      refine lv_aload_n hx hb dX0_mixInto_77 rfl (lv_at hl 0 rfl) ?_
      refine lv_iload hx hb dX0_mixInto_78 (lv_at hl 1 rfl) ?_
      have sp := cu_sp.all (W0 := (cu_wc h0 K)) (W1 := (cu_wc h0 K)) rfl
      refine cu_callI (va_runV (As := [.int (nI i)]) (rest := [.long (dd * 31)]) ⟨hx, hb, hml, hown, hts⟩ ((m_X0_reading l D C h0 K (nI i)) H.size) (cwV 1 hts gX0_mixInto_X0_reading rfl rfl rfl (by decide +kernel) ⟨Nat.le_of_ble_eq_true rfl, Nat.le_of_ble_eq_true rfl⟩) (cu_preV (ci := 0) sp hG hP hD rfl rfl) rfl rfl hl.1 rfl (lv_room (Nat.le_of_ble_eq_true rfl)) dX0_mixInto_80 ⟨Nat.le_of_ble_eq_true rfl, Nat.le_of_ble_eq_true rfl⟩) sp hP hD hS hA (fun H locs hP hD hS => ?_)
      have hP : va_P D vwCl (cu_wc h0 K) H := hP
      have hD : va_D A (cu_wc h0 K) := hD
      refine lv_i2l (v := (k_read K (nI i)).toInt64) hx hb dX0_mixInto_83 rfl ?_
      refine lv_ladd hx hb dX0_mixInto_84 ?_
      refine lv_lstore_n (lv' := [(3, .long ((dd * 31) + (k_read K (nI i)).toInt64)), (0, .ref h0), (5, .int (nI i))]) hx hb dX0_mixInto_85 rfl hl (by decide) rfl (fun ls hl => ?_)
      refine lv_iinc (v := (nI (i + 1))) (lv' := [(5, .int (nI (i + 1))), (3, .long ((dd * 31) + (k_read K (nI i)).toInt64)), (0, .ref h0)]) hx hb dX0_mixInto_86 hl (k := 2) rfl (nI_1 i) (by decide) rfl (fun ls hl => ?_)
      refine lv_goto (tgt := 65) hx hb dX0_mixInto_89 (by decide) ?_
      exact ih (i + 1) _ (by omega) (by rw [← hf]; rfl) _ _ _ hP hD hS (lv_sub hl [2, 0, 1] rfl)
  exact loop _ _ _ rfl rfl _ _ _ hP hD hS (lv_sub hl [2, 0, 1] rfl)

set_option maxHeartbeats 4000000 in
set_option maxRecDepth 100000 in
theorem m_X0_truestGears (l : Launch) (D : va_G) (C : Nat → ClassId) (h0 : Nat) (K : Nat → Int32) : cu_I l D C yX0_truestGears wsX0_truestGears { frames := 1, cells := 0, slots := 0, locals := 23 } [.ref h0] (cu_wc h0 K) (cu_wc h0 K) (k_true K) 0 0 := by
  refine cu_openI (cc := cX0_truestGears) (maxL := 6) (ty := .int) (own := RX0) (by decide) rfl rfl (Nat.le_of_ble_eq_true rfl) ?_
  intro p e s m args below meth c A Z H0 ls e0 hx hb hml hts hown hnm hG hP hD hS hA hl fin
  have hK := hG.1
  have hl : lv_has ls 6 [(0, .ref h0)] := hl
  refine lv_iconst (v := 0) hx hb dX0_truestGears_0 (by decide) ?_
  refine lv_istore_n (lv' := [(1, .int 0), (0, .ref h0)]) hx hb dX0_truestGears_1 rfl hl (by decide) rfl (fun ls hl => ?_)
  refine lv_ldc (v := 1000000) hx hb hown (hts (.constant RX0 59 (1000000)) (by decide +kernel)) dX0_truestGears_2 ?_
  refine lv_istore_n (lv' := [(2, .int 1000000), (1, .int 0), (0, .ref h0)]) hx hb dX0_truestGears_4 rfl hl (by decide) rfl (fun ls hl => ?_)
  refine lv_bipush (v := 20) hx hb dX0_truestGears_5 (by decide) ?_
  refine lv_istore_n (lv' := [(3, .int 20), (2, .int 1000000), (1, .int 0), (0, .ref h0)]) hx hb dX0_truestGears_7 rfl hl (by decide) rfl (fun ls hl => ?_)
  have loop : ∀ (j : Nat), ∀ (i : Nat) (u : Int32 × Int32), i + j = 41 → k_bestA K j i u = k_bestA K 21 20 (0, 1000000) → ∀ (H : Heap) (locs : List Loc) (ls : Array Slot), va_P D vwCl (cu_wc h0 K) H → va_D A (cu_wc h0 K) → va_S A H0 H locs → lv_has ls 6 [(0, .ref h0), (1, .int u.1), (2, .int u.2), (3, .int (nI i))] → W p l e { frames := 1, cells := 0, slots := 0, locals := 23 } s m args below meth c H locs 0 0 Z (F0 m 8 ls []) := by
    intro j
    induction j with
    | zero =>
      intro i u hj hf H locs ls hP hD hS hl
      refine lv_iload_n hx hb dX0_truestGears_8 rfl (lv_at hl 3 rfl) ?_
      refine lv_bipush (v := 40) hx hb dX0_truestGears_9 (by decide) ?_
      refine lv_icmp_gt (tgt := 70) hx hb dX0_truestGears_11 (by decide) (fun c_11 => ?_) (fun c_11 => absurd (nI_lt (a := 40) (by omega) (by omega)) c_11)
      refine lv_iload_n hx hb dX0_truestGears_70 rfl (lv_at hl 1 rfl) ?_
      exact fin _ _ _ _ _ rfl (by exact congrArg Prod.fst hf) hP hS dX0_truestGears_71
    | succ j ih =>
      intro i u hj hf H locs ls hP hD hS hl
      refine lv_iload_n hx hb dX0_truestGears_8 rfl (lv_at hl 3 rfl) ?_
      refine lv_bipush (v := 40) hx hb dX0_truestGears_9 (by decide) ?_
      refine lv_icmp_gt (tgt := 70) hx hb dX0_truestGears_11 (by decide) (fun c_11 => absurd c_11 (nI_nlt (a := 40) (by omega) (by decide))) (fun c_11 => ?_)
      refine lv_bipush (v := 20) hx hb dX0_truestGears_14 (by decide) ?_
      refine lv_istore (lv' := [(4, .int 20), (0, .ref h0), (1, .int u.1), (2, .int u.2), (3, .int (nI i))]) hx hb dX0_truestGears_16 hl (by decide) rfl (fun ls hl => ?_)
      have loop2 : ∀ (k : Nat), ∀ (b : Nat) (ww : Int32 × Int32), b + k = 41 → k_bestB K (nI i) k b ww = k_bestB K (nI i) 21 20 u → ∀ (H : Heap) (locs : List Loc) (ls : Array Slot), va_P D vwCl (cu_wc h0 K) H → va_D A (cu_wc h0 K) → va_S A H0 H locs → lv_has ls 6 [(0, .ref h0), (1, .int ww.1), (2, .int ww.2), (3, .int (nI i)), (4, .int (nI b))] → W p l e { frames := 1, cells := 0, slots := 0, locals := 23 } s m args below meth c H locs 0 0 Z (F0 m 18 ls []) := by
        intro k
        induction k with
        | zero =>
          intro b ww hb2 hg H locs ls hP hD hS hl
          refine lv_iload hx hb dX0_truestGears_18 (lv_at hl 4 rfl) ?_
          refine lv_bipush (v := 40) hx hb dX0_truestGears_20 (by decide) ?_
          refine lv_icmp_gt (tgt := 64) hx hb dX0_truestGears_22 (by decide) (fun c_22 => ?_) (fun c_22 => absurd (nI_lt (a := 40) (by omega) (by omega)) c_22)
          refine lv_iinc (v := (nI (i + 1))) (lv' := [(3, .int (nI (i + 1))), (0, .ref h0), (1, .int ww.1), (2, .int ww.2), (4, .int (nI b))]) hx hb dX0_truestGears_64 hl (k := 3) rfl (nI_1 i) (by decide) rfl (fun ls hl => ?_)
          refine lv_goto (tgt := 8) hx hb dX0_truestGears_67 (by decide) ?_
          exact ih (i + 1) ww (by omega) (by have e : ww = k_bestB K (nI i) 21 20 u := hg; rw [← hf, e]; rfl) _ _ _ hP hD hS (lv_sub hl [1, 2, 3, 0] rfl)
        | succ k ih =>
          intro b ww hb2 hg H locs ls hP hD hS hl
          refine lv_iload hx hb dX0_truestGears_18 (lv_at hl 4 rfl) ?_
          refine lv_bipush (v := 40) hx hb dX0_truestGears_20 (by decide) ?_
          refine lv_icmp_gt (tgt := 64) hx hb dX0_truestGears_22 (by decide) (fun c_22 => absurd c_22 (nI_nlt (a := 40) (by omega) (by decide))) (fun c_22 => ?_)
          refine lv_aload_n hx hb dX0_truestGears_25 rfl (lv_at hl 0 rfl) ?_
          refine lv_iload_n hx hb dX0_truestGears_26 rfl (lv_at hl 3 rfl) ?_
          refine lv_iload hx hb dX0_truestGears_27 (lv_at hl 4 rfl) ?_
          have sp := cu_sp.all (W0 := (cu_wc h0 K)) (W1 := (cu_wc h0 K)) rfl
          refine cu_callI (va_runV (As := [.int (nI i), .int (nI b)]) (rest := []) ⟨hx, hb, hml, hown, hts⟩ ((m_X0_advanceWith l D C h0 K (nI i) (nI b)) H.size) (cwV 2 hts gX0_truestGears_X0_advanceWith rfl rfl rfl (by decide +kernel) ⟨Nat.le_of_ble_eq_true rfl, Nat.le_of_ble_eq_true rfl⟩) (cu_preV (ci := 0) sp hG hP hD rfl rfl) rfl rfl hl.1 rfl (lv_room (Nat.le_of_ble_eq_true rfl)) dX0_truestGears_29 ⟨Nat.le_of_ble_eq_true rfl, Nat.le_of_ble_eq_true rfl⟩) sp hP hD hS hA (fun H locs hP hD hS => ?_)
          have hP : va_P D vwCl (cu_wc h0 K) H := hP
          have hD : va_D A (cu_wc h0 K) := hD
          refine lv_sipush (v := 900) hx hb dX0_truestGears_32 (by decide) ?_
          refine lv_isub hx hb dX0_truestGears_35 ?_
          refine va_mabs hx hb (hml.trans hl.1.symm) hown (hts (.methodLink RX0 60 Lib.Math.abs.name) (by decide +kernel)) (hts (.static Lib.Math.abs.name) (by decide +kernel)) (hts (.initialized "java/lang/Math") (by decide +kernel)) (hts (.code Lib.Math.abs.name Lib.Math.abs.code 1 (some .int)) (by decide +kernel)) (Nat.le_of_ble_eq_true rfl) (Nat.le_of_ble_eq_true rfl) (Nat.zero_le _) (Nat.zero_le _) dX0_truestGears_36 ?_
          refine lv_istore (lv' := [(5, .int (if 0 ≤ ((k_advW K (nI i) (nI b)) - 900) then ((k_advW K (nI i) (nI b)) - 900) else 0 - ((k_advW K (nI i) (nI b)) - 900))), (0, .ref h0), (1, .int ww.1), (2, .int ww.2), (3, .int (nI i)), (4, .int (nI b))]) hx hb dX0_truestGears_39 hl (by decide) rfl (fun ls hl => ?_)
          refine lv_iload hx hb dX0_truestGears_41 (lv_at hl 0 rfl) ?_
          refine lv_iload_n hx hb dX0_truestGears_43 rfl (lv_at hl 3 rfl) ?_
          refine lv_icmp_ge (tgt := 58) hx hb dX0_truestGears_44 (by decide) (fun c_44 => ?_) (fun c_44 => ?_)
          · refine lv_iinc (v := (nI (b + 1))) (lv' := [(4, .int (nI (b + 1))), (5, .int (if 0 ≤ ((k_advW K (nI i) (nI b)) - 900) then ((k_advW K (nI i) (nI b)) - 900) else 0 - ((k_advW K (nI i) (nI b)) - 900))), (0, .ref h0), (1, .int ww.1), (2, .int ww.2), (3, .int (nI i))]) hx hb dX0_truestGears_58 hl (k := 5) rfl (nI_1 b) (by decide) rfl (fun ls hl => ?_)
            refine lv_goto (tgt := 18) hx hb dX0_truestGears_61 (by decide) ?_
            exact ih (b + 1) ww (by omega) (by rw [← hg]; show _ = k_bestB K (nI i) k (b + 1) (k_best1 K (nI i) (nI b) ww); congr 1; exact (if_pos c_44).symm) _ _ _ hP hD hS (lv_sub hl [2, 3, 4, 5, 0] rfl)
          · refine lv_iload hx hb dX0_truestGears_47 (lv_at hl 0 rfl) ?_
            refine lv_istore_n (lv' := [(2, .int (if 0 ≤ ((k_advW K (nI i) (nI b)) - 900) then ((k_advW K (nI i) (nI b)) - 900) else 0 - ((k_advW K (nI i) (nI b)) - 900))), (5, .int (if 0 ≤ ((k_advW K (nI i) (nI b)) - 900) then ((k_advW K (nI i) (nI b)) - 900) else 0 - ((k_advW K (nI i) (nI b)) - 900))), (0, .ref h0), (1, .int ww.1), (3, .int (nI i)), (4, .int (nI b))]) hx hb dX0_truestGears_49 rfl hl (by decide) rfl (fun ls hl => ?_)
            refine lv_bipush (v := 100) hx hb dX0_truestGears_50 (by decide) ?_
            refine lv_iload_n hx hb dX0_truestGears_52 rfl (lv_at hl 4 rfl) ?_
            refine lv_imul hx hb dX0_truestGears_53 ?_
            refine lv_iload hx hb dX0_truestGears_54 (lv_at hl 5 rfl) ?_
            refine lv_iadd hx hb dX0_truestGears_56 ?_
            refine lv_istore_n (lv' := [(1, .int ((100 * nI i) + nI b)), (2, .int (if 0 ≤ ((k_advW K (nI i) (nI b)) - 900) then ((k_advW K (nI i) (nI b)) - 900) else 0 - ((k_advW K (nI i) (nI b)) - 900))), (5, .int (if 0 ≤ ((k_advW K (nI i) (nI b)) - 900) then ((k_advW K (nI i) (nI b)) - 900) else 0 - ((k_advW K (nI i) (nI b)) - 900))), (0, .ref h0), (3, .int (nI i)), (4, .int (nI b))]) hx hb dX0_truestGears_57 rfl hl (by decide) rfl (fun ls hl => ?_)
            refine lv_iinc (v := (nI (b + 1))) (lv' := [(4, .int (nI (b + 1))), (1, .int ((100 * nI i) + nI b)), (2, .int (if 0 ≤ ((k_advW K (nI i) (nI b)) - 900) then ((k_advW K (nI i) (nI b)) - 900) else 0 - ((k_advW K (nI i) (nI b)) - 900))), (5, .int (if 0 ≤ ((k_advW K (nI i) (nI b)) - 900) then ((k_advW K (nI i) (nI b)) - 900) else 0 - ((k_advW K (nI i) (nI b)) - 900))), (0, .ref h0), (3, .int (nI i))]) hx hb dX0_truestGears_58 hl (k := 5) rfl (nI_1 b) (by decide) rfl (fun ls hl => ?_)
            refine lv_goto (tgt := 18) hx hb dX0_truestGears_61 (by decide) ?_
            exact ih (b + 1) (((100 * nI i) + nI b), (if 0 ≤ ((k_advW K (nI i) (nI b)) - 900) then ((k_advW K (nI i) (nI b)) - 900) else 0 - ((k_advW K (nI i) (nI b)) - 900))) (by omega) (by rw [← hg]; show _ = k_bestB K (nI i) k (b + 1) (k_best1 K (nI i) (nI b) ww); congr 1; exact (if_neg c_44).symm) _ _ _ hP hD hS (lv_sub hl [4, 1, 2, 5, 0] rfl)
      exact loop2 _ 20 u rfl rfl _ _ _ hP hD hS (lv_sub hl [1, 2, 3, 4, 0] rfl)
  exact loop _ 20 (0, 1000000) rfl rfl _ _ _ hP hD hS (lv_sub hl [3, 2, 1, 0] rfl)

set_option maxHeartbeats 4000000 in
set_option maxRecDepth 100000 in
theorem m_X0_copyFrom (l : Launch) (D : va_G) (C : Nat → ClassId) (h0 : Nat) (K : Nat → Int32) (h1 : Nat) (J : Nat → Int32) (hJ : J 5 = 0 ∨ J 5 = 1) : cu_V l D C yX0_copyFrom wsX0_copyFrom { frames := 0, cells := 0, slots := 0, locals := 0 } [.ref h0, .ref h1] [(h0, .inr (0, cu_ck K)), (h1, .inr (0, cu_ck J))] [(h0, .inr (0, cu_ck J)), (h1, .inr (0, cu_ck J))] 0 0 := by
  refine cu_openV (cc := cX0_copyFrom) (maxL := 2) (own := RX0) (by decide) rfl rfl (Nat.le_of_ble_eq_true rfl) ?_
  intro p e s m args below meth c A Z H0 ls e0 hx hb hml hts hown hnm hG hP hD hS hA hl fin
  have hK := hG.1
  have hl : lv_has ls 2 [(0, .ref h0), (1, .ref h1)] := hl
  have hiX0 : ∀ w ∈ wsX00, w ∈ wsX0_copyFrom := by decide +kernel
  refine lv_aload_n hx hb dX0_copyFrom_0 rfl (lv_at hl 0 rfl) ?_
  refine lv_aload_n hx hb dX0_copyFrom_1 rfl (lv_at hl 1 rfl) ?_
  refine va_get (D := D) (ci := 0) (v := .int (J 9)) (C := RX0) (T := TX0) (N := 14) hx hb hts hiX0 hown hK hP 1 rfl rfl 0 (by decide) (hts (.fieldLink RX0 9 "CuckooShop$Clock" "gearA" "I") (by decide +kernel)) (fun _ h9 => h9) rfl dX0_copyFrom_2 ?_
  refine va_put (D := D) (ci := 0) (v := .int (J 9)) (ty := .int) (C := RX0) (T := TX0) (N := 14) hx hb hts hiX0 tyX0 tyX0_ok nmX0 hown hK hP hD hS 0 rfl rfl 0 (by decide) (hts (.fieldLink RX0 9 "CuckooShop$Clock" "gearA" "I") (by decide +kernel)) (fun _ h9 => h9) rfl (by decide +kernel) rfl rfl (Nat.le_of_ble_eq_true rfl) dX0_copyFrom_5 (fun H locs hP hD hS => ?_)
  have hP : va_P D vwCl [(h0, .inr (0, cu_ck (upd K 9 (J 9)))), (h1, .inr (0, cu_ck J))] H := hP
  have hD : va_D A [(h0, .inr (0, cu_ck (upd K 9 (J 9)))), (h1, .inr (0, cu_ck J))] := hD
  refine lv_aload_n hx hb dX0_copyFrom_8 rfl (lv_at hl 0 rfl) ?_
  refine lv_aload_n hx hb dX0_copyFrom_9 rfl (lv_at hl 1 rfl) ?_
  refine va_get (D := D) (ci := 0) (v := .int (J 10)) (C := RX0) (T := TX0) (N := 14) hx hb hts hiX0 hown hK hP 1 rfl rfl 1 (by decide) (hts (.fieldLink RX0 15 "CuckooShop$Clock" "gearB" "I") (by decide +kernel)) (fun _ h9 => h9) rfl dX0_copyFrom_10 ?_
  refine va_put (D := D) (ci := 0) (v := .int (J 10)) (ty := .int) (C := RX0) (T := TX0) (N := 14) hx hb hts hiX0 tyX0 tyX0_ok nmX0 hown hK hP hD hS 0 rfl rfl 1 (by decide) (hts (.fieldLink RX0 15 "CuckooShop$Clock" "gearB" "I") (by decide +kernel)) (fun _ h9 => h9) rfl (by decide +kernel) rfl rfl (Nat.le_of_ble_eq_true rfl) dX0_copyFrom_13 (fun H locs hP hD hS => ?_)
  have hP : va_P D vwCl [(h0, .inr (0, cu_ck (upd (upd K 9 (J 9)) 10 (J 10)))), (h1, .inr (0, cu_ck J))] H := hP
  have hD : va_D A [(h0, .inr (0, cu_ck (upd (upd K 9 (J 9)) 10 (J 10)))), (h1, .inr (0, cu_ck J))] := hD
  refine lv_aload_n hx hb dX0_copyFrom_16 rfl (lv_at hl 0 rfl) ?_
  refine lv_aload_n hx hb dX0_copyFrom_17 rfl (lv_at hl 1 rfl) ?_
  refine va_get (D := D) (ci := 0) (v := .int (J 11)) (C := RX0) (T := TX0) (N := 14) hx hb hts hiX0 hown hK hP 1 rfl rfl 2 (by decide) (hts (.fieldLink RX0 18 "CuckooShop$Clock" "swing" "I") (by decide +kernel)) (fun _ h9 => h9) rfl dX0_copyFrom_18 ?_
  refine va_put (D := D) (ci := 0) (v := .int (J 11)) (ty := .int) (C := RX0) (T := TX0) (N := 14) hx hb hts hiX0 tyX0 tyX0_ok nmX0 hown hK hP hD hS 0 rfl rfl 2 (by decide) (hts (.fieldLink RX0 18 "CuckooShop$Clock" "swing" "I") (by decide +kernel)) (fun _ h9 => h9) rfl (by decide +kernel) rfl rfl (Nat.le_of_ble_eq_true rfl) dX0_copyFrom_21 (fun H locs hP hD hS => ?_)
  have hP : va_P D vwCl [(h0, .inr (0, cu_ck (upd (upd (upd K 9 (J 9)) 10 (J 10)) 11 (J 11)))), (h1, .inr (0, cu_ck J))] H := hP
  have hD : va_D A [(h0, .inr (0, cu_ck (upd (upd (upd K 9 (J 9)) 10 (J 10)) 11 (J 11)))), (h1, .inr (0, cu_ck J))] := hD
  refine lv_aload_n hx hb dX0_copyFrom_24 rfl (lv_at hl 0 rfl) ?_
  refine lv_aload_n hx hb dX0_copyFrom_25 rfl (lv_at hl 1 rfl) ?_
  refine va_get (D := D) (ci := 0) (v := .int (J 2)) (C := RX0) (T := TX0) (N := 14) hx hb hts hiX0 hown hK hP 1 rfl rfl 3 (by decide) (hts (.fieldLink RX0 21 "CuckooShop$Clock" "chain" "I") (by decide +kernel)) (fun _ h9 => h9) rfl dX0_copyFrom_26 ?_
  refine va_put (D := D) (ci := 0) (v := .int (J 2)) (ty := .int) (C := RX0) (T := TX0) (N := 14) hx hb hts hiX0 tyX0 tyX0_ok nmX0 hown hK hP hD hS 0 rfl rfl 3 (by decide) (hts (.fieldLink RX0 21 "CuckooShop$Clock" "chain" "I") (by decide +kernel)) (fun _ h9 => h9) rfl (by decide +kernel) rfl rfl (Nat.le_of_ble_eq_true rfl) dX0_copyFrom_29 (fun H locs hP hD hS => ?_)
  have hP : va_P D vwCl [(h0, .inr (0, cu_ck (upd (upd (upd (upd K 9 (J 9)) 10 (J 10)) 11 (J 11)) 2 (J 2)))), (h1, .inr (0, cu_ck J))] H := hP
  have hD : va_D A [(h0, .inr (0, cu_ck (upd (upd (upd (upd K 9 (J 9)) 10 (J 10)) 11 (J 11)) 2 (J 2)))), (h1, .inr (0, cu_ck J))] := hD
  refine lv_aload_n hx hb dX0_copyFrom_32 rfl (lv_at hl 0 rfl) ?_
  refine lv_aload_n hx hb dX0_copyFrom_33 rfl (lv_at hl 1 rfl) ?_
  refine va_get (D := D) (ci := 0) (v := .int (J 3)) (C := RX0) (T := TX0) (N := 14) hx hb hts hiX0 hown hK hP 1 rfl rfl 4 (by decide) (hts (.fieldLink RX0 24 "CuckooShop$Clock" "oil" "I") (by decide +kernel)) (fun _ h9 => h9) rfl dX0_copyFrom_34 ?_
  refine va_put (D := D) (ci := 0) (v := .int (J 3)) (ty := .int) (C := RX0) (T := TX0) (N := 14) hx hb hts hiX0 tyX0 tyX0_ok nmX0 hown hK hP hD hS 0 rfl rfl 4 (by decide) (hts (.fieldLink RX0 24 "CuckooShop$Clock" "oil" "I") (by decide +kernel)) (fun _ h9 => h9) rfl (by decide +kernel) rfl rfl (Nat.le_of_ble_eq_true rfl) dX0_copyFrom_37 (fun H locs hP hD hS => ?_)
  have hP : va_P D vwCl [(h0, .inr (0, cu_ck (upd (upd (upd (upd (upd K 9 (J 9)) 10 (J 10)) 11 (J 11)) 2 (J 2)) 3 (J 3)))), (h1, .inr (0, cu_ck J))] H := hP
  have hD : va_D A [(h0, .inr (0, cu_ck (upd (upd (upd (upd (upd K 9 (J 9)) 10 (J 10)) 11 (J 11)) 2 (J 2)) 3 (J 3)))), (h1, .inr (0, cu_ck J))] := hD
  refine lv_aload_n hx hb dX0_copyFrom_40 rfl (lv_at hl 0 rfl) ?_
  refine lv_aload_n hx hb dX0_copyFrom_41 rfl (lv_at hl 1 rfl) ?_
  refine va_get (D := D) (ci := 0) (v := .int (J 4)) (C := RX0) (T := TX0) (N := 14) hx hb hts hiX0 hown hK hP 1 rfl rfl 5 (by decide) (hts (.fieldLink RX0 27 "CuckooShop$Clock" "bellows" "I") (by decide +kernel)) (fun _ h9 => h9) rfl dX0_copyFrom_42 ?_
  refine va_put (D := D) (ci := 0) (v := .int (J 4)) (ty := .int) (C := RX0) (T := TX0) (N := 14) hx hb hts hiX0 tyX0 tyX0_ok nmX0 hown hK hP hD hS 0 rfl rfl 5 (by decide) (hts (.fieldLink RX0 27 "CuckooShop$Clock" "bellows" "I") (by decide +kernel)) (fun _ h9 => h9) rfl (by decide +kernel) rfl rfl (Nat.le_of_ble_eq_true rfl) dX0_copyFrom_45 (fun H locs hP hD hS => ?_)
  have hP : va_P D vwCl [(h0, .inr (0, cu_ck (upd (upd (upd (upd (upd (upd K 9 (J 9)) 10 (J 10)) 11 (J 11)) 2 (J 2)) 3 (J 3)) 4 (J 4)))), (h1, .inr (0, cu_ck J))] H := hP
  have hD : va_D A [(h0, .inr (0, cu_ck (upd (upd (upd (upd (upd (upd K 9 (J 9)) 10 (J 10)) 11 (J 11)) 2 (J 2)) 3 (J 3)) 4 (J 4)))), (h1, .inr (0, cu_ck J))] := hD
  refine lv_aload_n hx hb dX0_copyFrom_48 rfl (lv_at hl 0 rfl) ?_
  refine lv_aload_n hx hb dX0_copyFrom_49 rfl (lv_at hl 1 rfl) ?_
  refine va_get (D := D) (ci := 0) (v := .int (J 5)) (C := RX0) (T := TX0) (N := 14) hx hb hts hiX0 hown hK hP 1 rfl rfl 6 (by decide) (hts (.fieldLink RX0 30 "CuckooShop$Clock" "goes" "Z") (by decide +kernel)) (fun _ h9 => h9) rfl dX0_copyFrom_50 ?_
  refine va_put (D := D) (ci := 0) (v := .int (J 5)) (ty := .boolean) (C := RX0) (T := TX0) (N := 14) hx hb hts hiX0 tyX0 tyX0_ok nmX0 hown hK hP hD hS 0 rfl rfl 6 (by decide) (hts (.fieldLink RX0 30 "CuckooShop$Clock" "goes" "Z") (by decide +kernel)) (fun _ h9 => h9) rfl (by decide +kernel) (cu_nb hJ) (cu_fb hJ) (Nat.le_of_ble_eq_true rfl) dX0_copyFrom_53 (fun H locs hP hD hS => ?_)
  have hP : va_P D vwCl [(h0, .inr (0, cu_ck (upd (upd (upd (upd (upd (upd (upd K 9 (J 9)) 10 (J 10)) 11 (J 11)) 2 (J 2)) 3 (J 3)) 4 (J 4)) 5 (J 5)))), (h1, .inr (0, cu_ck J))] H := hP
  have hD : va_D A [(h0, .inr (0, cu_ck (upd (upd (upd (upd (upd (upd (upd K 9 (J 9)) 10 (J 10)) 11 (J 11)) 2 (J 2)) 3 (J 3)) 4 (J 4)) 5 (J 5)))), (h1, .inr (0, cu_ck J))] := hD
  refine lv_aload_n hx hb dX0_copyFrom_56 rfl (lv_at hl 0 rfl) ?_
  refine lv_aload_n hx hb dX0_copyFrom_57 rfl (lv_at hl 1 rfl) ?_
  refine va_get (D := D) (ci := 0) (v := .int (J 0)) (C := RX0) (T := TX0) (N := 14) hx hb hts hiX0 hown hK hP 1 rfl rfl 7 (by decide) (hts (.fieldLink RX0 34 "CuckooShop$Clock" "shown" "I") (by decide +kernel)) (fun _ h9 => h9) rfl dX0_copyFrom_58 ?_
  refine va_put (D := D) (ci := 0) (v := .int (J 0)) (ty := .int) (C := RX0) (T := TX0) (N := 14) hx hb hts hiX0 tyX0 tyX0_ok nmX0 hown hK hP hD hS 0 rfl rfl 7 (by decide) (hts (.fieldLink RX0 34 "CuckooShop$Clock" "shown" "I") (by decide +kernel)) (fun _ h9 => h9) rfl (by decide +kernel) rfl rfl (Nat.le_of_ble_eq_true rfl) dX0_copyFrom_61 (fun H locs hP hD hS => ?_)
  have hP : va_P D vwCl [(h0, .inr (0, cu_ck (upd (upd (upd (upd (upd (upd (upd (upd K 9 (J 9)) 10 (J 10)) 11 (J 11)) 2 (J 2)) 3 (J 3)) 4 (J 4)) 5 (J 5)) 0 (J 0)))), (h1, .inr (0, cu_ck J))] H := hP
  have hD : va_D A [(h0, .inr (0, cu_ck (upd (upd (upd (upd (upd (upd (upd (upd K 9 (J 9)) 10 (J 10)) 11 (J 11)) 2 (J 2)) 3 (J 3)) 4 (J 4)) 5 (J 5)) 0 (J 0)))), (h1, .inr (0, cu_ck J))] := hD
  refine lv_aload_n hx hb dX0_copyFrom_64 rfl (lv_at hl 0 rfl) ?_
  refine lv_aload_n hx hb dX0_copyFrom_65 rfl (lv_at hl 1 rfl) ?_
  refine va_get (D := D) (ci := 0) (v := .int (J 1)) (C := RX0) (T := TX0) (N := 14) hx hb hts hiX0 hown hK hP 1 rfl rfl 8 (by decide) (hts (.fieldLink RX0 37 "CuckooShop$Clock" "rest" "I") (by decide +kernel)) (fun _ h9 => h9) rfl dX0_copyFrom_66 ?_
  refine va_put (D := D) (ci := 0) (v := .int (J 1)) (ty := .int) (C := RX0) (T := TX0) (N := 14) hx hb hts hiX0 tyX0 tyX0_ok nmX0 hown hK hP hD hS 0 rfl rfl 8 (by decide) (hts (.fieldLink RX0 37 "CuckooShop$Clock" "rest" "I") (by decide +kernel)) (fun _ h9 => h9) rfl (by decide +kernel) rfl rfl (Nat.le_of_ble_eq_true rfl) dX0_copyFrom_69 (fun H locs hP hD hS => ?_)
  have hP : va_P D vwCl [(h0, .inr (0, cu_ck (upd (upd (upd (upd (upd (upd (upd (upd (upd K 9 (J 9)) 10 (J 10)) 11 (J 11)) 2 (J 2)) 3 (J 3)) 4 (J 4)) 5 (J 5)) 0 (J 0)) 1 (J 1)))), (h1, .inr (0, cu_ck J))] H := hP
  have hD : va_D A [(h0, .inr (0, cu_ck (upd (upd (upd (upd (upd (upd (upd (upd (upd K 9 (J 9)) 10 (J 10)) 11 (J 11)) 2 (J 2)) 3 (J 3)) 4 (J 4)) 5 (J 5)) 0 (J 0)) 1 (J 1)))), (h1, .inr (0, cu_ck J))] := hD
  refine lv_aload_n hx hb dX0_copyFrom_72 rfl (lv_at hl 0 rfl) ?_
  refine lv_aload_n hx hb dX0_copyFrom_73 rfl (lv_at hl 1 rfl) ?_
  refine va_get (D := D) (ci := 0) (v := .int (J 12)) (C := RX0) (T := TX0) (N := 14) hx hb hts hiX0 hown hK hP 1 rfl rfl 9 (by decide) (hts (.fieldLink RX0 40 "CuckooShop$Clock" "shutFrom" "I") (by decide +kernel)) (fun _ h9 => h9) rfl dX0_copyFrom_74 ?_
  refine va_put (D := D) (ci := 0) (v := .int (J 12)) (ty := .int) (C := RX0) (T := TX0) (N := 14) hx hb hts hiX0 tyX0 tyX0_ok nmX0 hown hK hP hD hS 0 rfl rfl 9 (by decide) (hts (.fieldLink RX0 40 "CuckooShop$Clock" "shutFrom" "I") (by decide +kernel)) (fun _ h9 => h9) rfl (by decide +kernel) rfl rfl (Nat.le_of_ble_eq_true rfl) dX0_copyFrom_77 (fun H locs hP hD hS => ?_)
  have hP : va_P D vwCl [(h0, .inr (0, cu_ck (upd (upd (upd (upd (upd (upd (upd (upd (upd (upd K 9 (J 9)) 10 (J 10)) 11 (J 11)) 2 (J 2)) 3 (J 3)) 4 (J 4)) 5 (J 5)) 0 (J 0)) 1 (J 1)) 12 (J 12)))), (h1, .inr (0, cu_ck J))] H := hP
  have hD : va_D A [(h0, .inr (0, cu_ck (upd (upd (upd (upd (upd (upd (upd (upd (upd (upd K 9 (J 9)) 10 (J 10)) 11 (J 11)) 2 (J 2)) 3 (J 3)) 4 (J 4)) 5 (J 5)) 0 (J 0)) 1 (J 1)) 12 (J 12)))), (h1, .inr (0, cu_ck J))] := hD
  refine lv_aload_n hx hb dX0_copyFrom_80 rfl (lv_at hl 0 rfl) ?_
  refine lv_aload_n hx hb dX0_copyFrom_81 rfl (lv_at hl 1 rfl) ?_
  refine va_get (D := D) (ci := 0) (v := .int (J 13)) (C := RX0) (T := TX0) (N := 14) hx hb hts hiX0 hown hK hP 1 rfl rfl 10 (by decide) (hts (.fieldLink RX0 43 "CuckooShop$Clock" "shutTill" "I") (by decide +kernel)) (fun _ h9 => h9) rfl dX0_copyFrom_82 ?_
  refine va_put (D := D) (ci := 0) (v := .int (J 13)) (ty := .int) (C := RX0) (T := TX0) (N := 14) hx hb hts hiX0 tyX0 tyX0_ok nmX0 hown hK hP hD hS 0 rfl rfl 10 (by decide) (hts (.fieldLink RX0 43 "CuckooShop$Clock" "shutTill" "I") (by decide +kernel)) (fun _ h9 => h9) rfl (by decide +kernel) rfl rfl (Nat.le_of_ble_eq_true rfl) dX0_copyFrom_85 (fun H locs hP hD hS => ?_)
  have hP : va_P D vwCl [(h0, .inr (0, cu_ck (upd (upd (upd (upd (upd (upd (upd (upd (upd (upd (upd K 9 (J 9)) 10 (J 10)) 11 (J 11)) 2 (J 2)) 3 (J 3)) 4 (J 4)) 5 (J 5)) 0 (J 0)) 1 (J 1)) 12 (J 12)) 13 (J 13)))), (h1, .inr (0, cu_ck J))] H := hP
  have hD : va_D A [(h0, .inr (0, cu_ck (upd (upd (upd (upd (upd (upd (upd (upd (upd (upd (upd K 9 (J 9)) 10 (J 10)) 11 (J 11)) 2 (J 2)) 3 (J 3)) 4 (J 4)) 5 (J 5)) 0 (J 0)) 1 (J 1)) 12 (J 12)) 13 (J 13)))), (h1, .inr (0, cu_ck J))] := hD
  refine lv_aload_n hx hb dX0_copyFrom_88 rfl (lv_at hl 0 rfl) ?_
  refine lv_aload_n hx hb dX0_copyFrom_89 rfl (lv_at hl 1 rfl) ?_
  refine va_get (D := D) (ci := 0) (v := .int (J 6)) (C := RX0) (T := TX0) (N := 14) hx hb hts hiX0 hown hK hP 1 rfl rfl 11 (by decide) (hts (.fieldLink RX0 46 "CuckooShop$Clock" "calls" "I") (by decide +kernel)) (fun _ h9 => h9) rfl dX0_copyFrom_90 ?_
  refine va_put (D := D) (ci := 0) (v := .int (J 6)) (ty := .int) (C := RX0) (T := TX0) (N := 14) hx hb hts hiX0 tyX0 tyX0_ok nmX0 hown hK hP hD hS 0 rfl rfl 11 (by decide) (hts (.fieldLink RX0 46 "CuckooShop$Clock" "calls" "I") (by decide +kernel)) (fun _ h9 => h9) rfl (by decide +kernel) rfl rfl (Nat.le_of_ble_eq_true rfl) dX0_copyFrom_93 (fun H locs hP hD hS => ?_)
  have hP : va_P D vwCl [(h0, .inr (0, cu_ck (upd (upd (upd (upd (upd (upd (upd (upd (upd (upd (upd (upd K 9 (J 9)) 10 (J 10)) 11 (J 11)) 2 (J 2)) 3 (J 3)) 4 (J 4)) 5 (J 5)) 0 (J 0)) 1 (J 1)) 12 (J 12)) 13 (J 13)) 6 (J 6)))), (h1, .inr (0, cu_ck J))] H := hP
  have hD : va_D A [(h0, .inr (0, cu_ck (upd (upd (upd (upd (upd (upd (upd (upd (upd (upd (upd (upd K 9 (J 9)) 10 (J 10)) 11 (J 11)) 2 (J 2)) 3 (J 3)) 4 (J 4)) 5 (J 5)) 0 (J 0)) 1 (J 1)) 12 (J 12)) 13 (J 13)) 6 (J 6)))), (h1, .inr (0, cu_ck J))] := hD
  refine lv_aload_n hx hb dX0_copyFrom_96 rfl (lv_at hl 0 rfl) ?_
  refine lv_aload_n hx hb dX0_copyFrom_97 rfl (lv_at hl 1 rfl) ?_
  refine va_get (D := D) (ci := 0) (v := .int (J 7)) (C := RX0) (T := TX0) (N := 14) hx hb hts hiX0 hown hK hP 1 rfl rfl 12 (by decide) (hts (.fieldLink RX0 49 "CuckooShop$Clock" "missed" "I") (by decide +kernel)) (fun _ h9 => h9) rfl dX0_copyFrom_98 ?_
  refine va_put (D := D) (ci := 0) (v := .int (J 7)) (ty := .int) (C := RX0) (T := TX0) (N := 14) hx hb hts hiX0 tyX0 tyX0_ok nmX0 hown hK hP hD hS 0 rfl rfl 12 (by decide) (hts (.fieldLink RX0 49 "CuckooShop$Clock" "missed" "I") (by decide +kernel)) (fun _ h9 => h9) rfl (by decide +kernel) rfl rfl (Nat.le_of_ble_eq_true rfl) dX0_copyFrom_101 (fun H locs hP hD hS => ?_)
  have hP : va_P D vwCl [(h0, .inr (0, cu_ck (upd (upd (upd (upd (upd (upd (upd (upd (upd (upd (upd (upd (upd K 9 (J 9)) 10 (J 10)) 11 (J 11)) 2 (J 2)) 3 (J 3)) 4 (J 4)) 5 (J 5)) 0 (J 0)) 1 (J 1)) 12 (J 12)) 13 (J 13)) 6 (J 6)) 7 (J 7)))), (h1, .inr (0, cu_ck J))] H := hP
  have hD : va_D A [(h0, .inr (0, cu_ck (upd (upd (upd (upd (upd (upd (upd (upd (upd (upd (upd (upd (upd K 9 (J 9)) 10 (J 10)) 11 (J 11)) 2 (J 2)) 3 (J 3)) 4 (J 4)) 5 (J 5)) 0 (J 0)) 1 (J 1)) 12 (J 12)) 13 (J 13)) 6 (J 6)) 7 (J 7)))), (h1, .inr (0, cu_ck J))] := hD
  refine lv_aload_n hx hb dX0_copyFrom_104 rfl (lv_at hl 0 rfl) ?_
  refine lv_aload_n hx hb dX0_copyFrom_105 rfl (lv_at hl 1 rfl) ?_
  refine va_get (D := D) (ci := 0) (v := .int (J 8)) (C := RX0) (T := TX0) (N := 14) hx hb hts hiX0 hown hK hP 1 rfl rfl 13 (by decide) (hts (.fieldLink RX0 52 "CuckooShop$Clock" "latestCalls" "I") (by decide +kernel)) (fun _ h9 => h9) rfl dX0_copyFrom_106 ?_
  refine va_put (D := D) (ci := 0) (v := .int (J 8)) (ty := .int) (C := RX0) (T := TX0) (N := 14) hx hb hts hiX0 tyX0 tyX0_ok nmX0 hown hK hP hD hS 0 rfl rfl 13 (by decide) (hts (.fieldLink RX0 52 "CuckooShop$Clock" "latestCalls" "I") (by decide +kernel)) (fun _ h9 => h9) rfl (by decide +kernel) rfl rfl (Nat.le_of_ble_eq_true rfl) dX0_copyFrom_109 (fun H locs hP hD hS => ?_)
  have hP : va_P D vwCl [(h0, .inr (0, cu_ck (upd (upd (upd (upd (upd (upd (upd (upd (upd (upd (upd (upd (upd (upd K 9 (J 9)) 10 (J 10)) 11 (J 11)) 2 (J 2)) 3 (J 3)) 4 (J 4)) 5 (J 5)) 0 (J 0)) 1 (J 1)) 12 (J 12)) 13 (J 13)) 6 (J 6)) 7 (J 7)) 8 (J 8)))), (h1, .inr (0, cu_ck J))] H := hP
  have hD : va_D A [(h0, .inr (0, cu_ck (upd (upd (upd (upd (upd (upd (upd (upd (upd (upd (upd (upd (upd (upd K 9 (J 9)) 10 (J 10)) 11 (J 11)) 2 (J 2)) 3 (J 3)) 4 (J 4)) 5 (J 5)) 0 (J 0)) 1 (J 1)) 12 (J 12)) 13 (J 13)) 6 (J 6)) 7 (J 7)) 8 (J 8)))), (h1, .inr (0, cu_ck J))] := hD
  exact fin _ _ _ _ hP hS dX0_copyFrom_112
