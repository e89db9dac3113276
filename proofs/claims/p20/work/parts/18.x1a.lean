set_option maxHeartbeats 4000000 in
set_option maxRecDepth 100000 in
theorem m_J9_floorMod_7cf53 (l : Launch) (D : va_G) (C : Nat → ClassId) (v1 v2 : Int32) (hy0 : ¬ v2 = 0) : cu_I l D C yJ9_floorMod_7cf53 wsJ9_floorMod_7cf53 { frames := 0, cells := 0, slots := 0, locals := 0 } [.int v1, .int v2] ([] : va_W) ([] : va_W) (k_fm v1 v2) 0 0 := by
  refine cu_openIF (cc := cJ9_floorMod_7cf53) (maxL := 3) (ty := .int) (own := RJ9) (by decide +kernel) rfl rfl (Nat.le_of_ble_eq_true rfl) ?_
  intro p e s m args below meth c A Z H0 ls e0 hx hb hml hts hown hnm hG hP hD hS hA hl fin
  have hK := hG.1
  have hl : lv_has ls 3 [(0, .int v1), (1, .int v2)] := hl
  refine lv_iload_n hx hb dJ9_floorMod_7cf53_0 rfl (lv_at hl 0 rfl) ?_
  refine lv_iload_n hx hb dJ9_floorMod_7cf53_1 rfl (lv_at hl 1 rfl) ?_
  refine lv_irem hx hb dJ9_floorMod_7cf53_2 hy0 ?_
  refine lv_istore_n (lv' := [(2, .int (v1 - v1 / v2 * v2)), (0, .int v1), (1, .int v2)]) hx hb dJ9_floorMod_7cf53_3 rfl hl (by decide) rfl (fun ls hl => ?_)
  refine lv_iload_n hx hb dJ9_floorMod_7cf53_4 rfl (lv_at hl 1 rfl) ?_
  refine lv_iload_n hx hb dJ9_floorMod_7cf53_5 rfl (lv_at hl 2 rfl) ?_
  refine lv_ixor hx hb dJ9_floorMod_7cf53_6 ?_
  refine lv_if_ge (tgt := 18) hx hb dJ9_floorMod_7cf53_7 (by decide) (fun c_7 => ?_) (fun c_7 => ?_)
  · refine lv_iload_n hx hb dJ9_floorMod_7cf53_18 rfl (lv_at hl 0 rfl) ?_
    exact fin _ _ _ _ _ rfl (by simp only [k_fm, if_pos c_7, reduceIte]) hP hS dJ9_floorMod_7cf53_19
  · refine lv_iload_n hx hb dJ9_floorMod_7cf53_10 rfl (lv_at hl 0 rfl) ?_
    refine lv_if_eq (tgt := 18) hx hb dJ9_floorMod_7cf53_11 (by decide) (fun c_11 => ?_) (fun c_11 => ?_)
    · refine lv_iload_n hx hb dJ9_floorMod_7cf53_18 rfl (lv_at hl 0 rfl) ?_
      exact fin _ _ _ _ _ rfl (by simp only [k_fm, if_neg c_7, if_pos c_11, reduceIte]) hP hS dJ9_floorMod_7cf53_19
    · refine lv_iload_n hx hb dJ9_floorMod_7cf53_14 rfl (lv_at hl 0 rfl) ?_
      refine lv_iload_n hx hb dJ9_floorMod_7cf53_15 rfl (lv_at hl 2 rfl) ?_
      refine lv_iadd hx hb dJ9_floorMod_7cf53_16 ?_
      exact fin _ _ _ _ _ rfl (by simp only [k_fm, if_neg c_7, if_neg c_11, reduceIte]) hP hS dJ9_floorMod_7cf53_17

set_option maxHeartbeats 4000000 in
set_option maxRecDepth 100000 in
theorem m_X1_isWithin (l : Launch) (D : va_G) (C : Nat → ClassId) (v1 : Int32) (v2 : Int32) (v3 : Int32) : cu_I l D C yX1_isWithin wsX1_isWithin { frames := 0, cells := 0, slots := 0, locals := 0 } [.int v1, .int v2, .int v3] ([] : va_W) ([] : va_W) (k_isW v1 v2 v3) 0 0 := by
  refine cu_openI (cc := cX1_isWithin) (maxL := 3) (ty := .boolean) (own := RX1) (by decide) rfl rfl (Nat.le_of_ble_eq_true rfl) ?_
  intro p e s m args below meth c A Z H0 ls e0 hx hb hml hts hown hnm hG hP hD hS hA hl fin
  have hK := hG.1
  have hl : lv_has ls 3 [(0, .int v1), (1, .int v2), (2, .int v3)] := hl
  refine lv_iload_n hx hb dX1_isWithin_0 rfl (lv_at hl 0 rfl) ?_
  refine lv_iload_n hx hb dX1_isWithin_1 rfl (lv_at hl 1 rfl) ?_
  refine lv_icmp_lt (tgt := 14) hx hb dX1_isWithin_2 (by decide) (fun c_2 => ?_) (fun c_2 => ?_)
  · refine lv_iconst (v := 0) hx hb dX1_isWithin_14 (by decide) ?_
    exact fin _ _ _ _ _ (by decide) (by simp only [k_isW, if_pos c_2, reduceIte]) hP hS dX1_isWithin_15
  · refine lv_iload_n hx hb dX1_isWithin_5 rfl (lv_at hl 0 rfl) ?_
    refine lv_iload_n hx hb dX1_isWithin_6 rfl (lv_at hl 2 rfl) ?_
    refine lv_icmp_gt (tgt := 14) hx hb dX1_isWithin_7 (by decide) (fun c_7 => ?_) (fun c_7 => ?_)
    · refine lv_iconst (v := 0) hx hb dX1_isWithin_14 (by decide) ?_
      exact fin _ _ _ _ _ (by decide) (by simp only [k_isW, if_neg c_2, if_pos c_7, reduceIte]) hP hS dX1_isWithin_15
    · refine lv_iconst (v := 1) hx hb dX1_isWithin_10 (by decide) ?_
      refine lv_goto (tgt := 15) hx hb dX1_isWithin_11 (by decide) ?_
      exact fin _ _ _ _ _ (by decide) (by simp only [k_isW, if_neg c_2, if_neg c_7, reduceIte]) hP hS dX1_isWithin_15

set_option maxHeartbeats 4000000 in
set_option maxRecDepth 100000 in
theorem m_X1_trueTime (l : Launch) (D : va_G) (C : Nat → ClassId) (v1 : Int32) : cu_I l D C yX1_trueTime wsX1_trueTime { frames := 1, cells := 0, slots := 0, locals := 22 } [.int v1] ([] : va_W) ([] : va_W) (k_tt v1) 0 0 := by
  refine cu_openI (cc := cX1_trueTime) (maxL := 1) (ty := .int) (own := RX1) (by decide) rfl rfl (Nat.le_of_ble_eq_true rfl) ?_
  intro p e s m args below meth c A Z H0 ls e0 hx hb hml hts hown hnm hG hP hD hS hA hl fin
  have hK := hG.1
  have hl : lv_has ls 1 [(0, .int v1)] := hl
  refine lv_iload_n hx hb dX1_trueTime_0 rfl (lv_at hl 0 rfl) ?_
  refine lv_sipush (v := 720) hx hb dX1_trueTime_1 (by decide) ?_
  have sp := cu_sp.nil (W0 := ([] : va_W))
  refine cu_callI (va_runS (As := [.int v1, .int 720]) (rest := []) ⟨hx, hb, hml, hown, hts⟩ ((m_J9_floorMod_7cf53 l D C v1 720 (by decide)) H0.size) (va_cwS 2 hts gX1_trueTime_J9_floorMod_7cf53 rfl rfl rfl (by decide +kernel) ⟨Nat.le_of_ble_eq_true rfl, Nat.le_of_ble_eq_true rfl⟩) (cu_preS sp hG hP hD) rfl rfl hl.1 rfl (lv_room (Nat.le_of_ble_eq_true rfl)) dX1_trueTime_4 ⟨Nat.le_of_ble_eq_true rfl, Nat.le_of_ble_eq_true rfl⟩) sp hP hD hS hA (fun H locs hP hD hS => ?_)
  exact fin _ _ _ _ _ rfl (by rfl) hP hS dX1_trueTime_7

set_option maxHeartbeats 4000000 in
set_option maxRecDepth 100000 in
theorem m_X1_offOf (l : Launch) (D : va_G) (C : Nat → ClassId) (h0 : Nat) (K : Nat → Int32) (v1 : Int32) : cu_I l D C yX1_offOf wsX1_offOf { frames := 2, cells := 0, slots := 0, locals := 42 } [.ref h0, .int v1] (cu_wc h0 K) (cu_wc h0 K) (k_off K v1) 0 0 := by
  refine cu_openI (cc := cX1_offOf) (maxL := 3) (ty := .int) (own := RX1) (by decide) rfl rfl (Nat.le_of_ble_eq_true rfl) ?_
  intro p e s m args below meth c A Z H0 ls e0 hx hb hml hts hown hnm hG hP hD hS hA hl fin
  have hK := hG.1
  have hl : lv_has ls 3 [(0, .ref h0), (1, .int v1)] := hl
  have hiX0 : ∀ w ∈ wsX00, w ∈ wsX1_offOf := by decide +kernel
  refine lv_aload_n hx hb dX1_offOf_0 rfl (lv_at hl 0 rfl) ?_
  refine va_getN (host := RX1) (D := D) (ci := 0) (v := .int (K 0)) (C := RX0) (T := TX0) (N := 14) hx hb hts hiX0 hown hK hP 0 rfl rfl 7 (by decide) (va_Nw.use rfl (hG.2.2.1 (157, "shown", "I") (by decide +kernel))) (fun _ h9 => h9) rfl dX1_offOf_1 ?_
  refine lv_iload_n hx hb dX1_offOf_4 rfl (lv_at hl 1 rfl) ?_
  have sp := cu_sp.nil (W0 := (cu_wc h0 K))
  refine cu_callI (va_runS (As := [.int v1]) (rest := [.int (K 0)]) ⟨hx, hb, hml, hown, hts⟩ ((m_X1_trueTime l D C v1) H0.size) (va_cwS 1 hts gX1_offOf_X1_trueTime rfl rfl rfl (by decide +kernel) ⟨Nat.le_of_ble_eq_true rfl, Nat.le_of_ble_eq_true rfl⟩) (cu_preS sp hG hP hD) rfl rfl hl.1 rfl (lv_room (Nat.le_of_ble_eq_true rfl)) dX1_offOf_5 ⟨Nat.le_of_ble_eq_true rfl, Nat.le_of_ble_eq_true rfl⟩) sp hP hD hS hA (fun H locs hP hD hS => ?_)
  refine lv_isub hx hb dX1_offOf_8 ?_
  refine lv_istore_n (lv' := [(2, .int ((K 0) - (k_tt v1))), (0, .ref h0), (1, .int v1)]) hx hb dX1_offOf_9 rfl hl (by decide) rfl (fun ls hl => ?_)
  refine lv_iload_n hx hb dX1_offOf_10 rfl (lv_at hl 0 rfl) ?_
  refine lv_sipush (v := 360) hx hb dX1_offOf_11 (by decide) ?_
  refine lv_iadd hx hb dX1_offOf_14 ?_
  refine lv_sipush (v := 720) hx hb dX1_offOf_15 (by decide) ?_
  have sp := cu_sp.nil (W0 := (cu_wc h0 K))
  refine cu_callI (va_runS (As := [.int (((K 0) - (k_tt v1)) + 360), .int 720]) (rest := []) ⟨hx, hb, hml, hown, hts⟩ ((m_J9_floorMod_7cf53 l D C (((K 0) - (k_tt v1)) + 360) 720 (by decide)) H.size) (va_cwS 2 hts gX1_offOf_J9_floorMod_7cf53 rfl rfl rfl (by decide +kernel) ⟨Nat.le_of_ble_eq_true rfl, Nat.le_of_ble_eq_true rfl⟩) (cu_preS sp hG hP hD) rfl rfl hl.1 rfl (lv_room (Nat.le_of_ble_eq_true rfl)) dX1_offOf_18 ⟨Nat.le_of_ble_eq_true rfl, Nat.le_of_ble_eq_true rfl⟩) sp hP hD hS hA (fun H locs hP hD hS => ?_)
  refine lv_sipush (v := 360) hx hb dX1_offOf_21 (by decide) ?_
  refine lv_isub hx hb dX1_offOf_24 ?_
  exact fin _ _ _ _ _ rfl (by rfl) hP hS dX1_offOf_25

set_option maxHeartbeats 4000000 in
set_option maxRecDepth 100000 in
theorem m_X1_runRow (l : Launch) (D : va_G) (C : Nat → ClassId) (a : Nat → Nat) (N : Nat) (hN : N ≤ 10) (mn : Int32) (K P : Nat → Nat → Int32) (v1 : Int32) : cu_I l D C yX1_runRow wsX1_runRow { frames := 4, cells := 0, slots := 0, locals := 86 } [.ref (a 0), .ref (a 1), .int v1] (cu_cw C a (nI N) mn K P) (cu_cw C a (nI N) mn (k_upto (k_min v1) K N) P) (k_lat N v1 K) 0 0 := by
  refine cu_openI (cc := cX1_runRow) (maxL := 5) (ty := .int) (own := RX1) (by decide) rfl rfl (Nat.le_of_ble_eq_true rfl) ?_
  intro p e s m args below meth c A Z H0 ls e0 hx hb hml hts hown hnm hG hP hD hS hA hl fin
  have hK := hG.1
  have hl : lv_has ls 5 [(0, .ref (a 0)), (1, .ref (a 1)), (2, .int v1)] := hl
  have hiX0 : ∀ w ∈ wsX00, w ∈ wsX1_runRow := by decide +kernel
  have hiX1 : ∀ w ∈ wsX10, w ∈ wsX1_runRow := by decide +kernel
  refine lv_iconst (v := 0) hx hb dX1_runRow_0 (by decide) ?_
  refine lv_istore_n (lv' := [(3, .int 0), (0, .ref (a 0)), (1, .ref (a 1)), (2, .int v1)]) hx hb dX1_runRow_1 rfl hl (by decide) rfl (fun ls hl => ?_)
  refine lv_iconst (v := 0) hx hb dX1_runRow_2 (by decide) ?_
  refine lv_istore (lv' := [(4, .int 0), (3, .int 0), (0, .ref (a 0)), (1, .ref (a 1)), (2, .int v1)]) hx hb dX1_runRow_3 hl (by decide) rfl (fun ls hl => ?_)
  rw [← k_upto_0 (g := k_min v1) (K := K)] at hP hD
  have loop : ∀ (j : Nat), ∀ (i : Nat), i + j = N → ∀ (H : Heap) (locs : List Loc) (ls : Array Slot), va_P D vwCl (cu_cw C a (nI N) mn (k_upto (k_min v1) K i) P) H → va_D A (cu_cw C a (nI N) mn (k_upto (k_min v1) K i) P) → va_S A H0 H locs → lv_has ls 5 [(0, .ref (a 0)), (1, .ref (a 1)), (2, .int v1), (3, .int (k_sum (fun c => k_min v1 (K c) 8) i)), (4, .int (nI i))] → W p l e { frames := 4, cells := 0, slots := 0, locals := 86 } s m args below meth c H locs 0 0 Z (F0 m 5 ls []) := by
    intro j
    induction j with
    | zero =>
      intro i hj H locs ls hP hD hS hl
      have eN : i = N := by omega
      refine lv_iload hx hb dX1_runRow_5 (lv_at hl 4 rfl) ?_
      refine lv_aload_n hx hb dX1_runRow_7 rfl (lv_at hl 0 rfl) ?_
      refine va_get (D := D) (ci := 1) (v := .int (nI N)) (C := RX1) (T := TX1) (N := 4) hx hb hts hiX1 hown hK hP 0 rfl rfl 2 (by decide) (hts (.fieldLink RX1 19 "CuckooShop" "present" "I") (by decide +kernel)) (fun _ h9 => h9) rfl dX1_runRow_8 ?_
      refine lv_icmp_ge (tgt := 38) hx hb dX1_runRow_11 (by decide) (fun c_11 => ?_) (fun c_11 => absurd (nI_le (a := N) (by omega) (by omega)) c_11)
      refine lv_iload_n hx hb dX1_runRow_38 rfl (lv_at hl 3 rfl) ?_
      exact fin _ _ _ _ _ rfl (by rw [eN]; rfl) (by rw [eN] at hP; exact hP) hS dX1_runRow_39
    | succ j ih =>
      intro i hj H locs ls hP hD hS hl
      have hi : i < 10 := by omega
      refine lv_iload hx hb dX1_runRow_5 (lv_at hl 4 rfl) ?_
      refine lv_aload_n hx hb dX1_runRow_7 rfl (lv_at hl 0 rfl) ?_
      refine va_get (D := D) (ci := 1) (v := .int (nI N)) (C := RX1) (T := TX1) (N := 4) hx hb hts hiX1 hown hK hP 0 rfl rfl 2 (by decide) (hts (.fieldLink RX1 19 "CuckooShop" "present" "I") (by decide +kernel)) (fun _ h9 => h9) rfl dX1_runRow_8 ?_
      refine lv_icmp_ge (tgt := 38) hx hb dX1_runRow_11 (by decide) (fun c_11 => absurd c_11 (nI_ge (b := N) (by omega) (by omega))) (fun c_11 => ?_)
      refine lv_aload_n hx hb dX1_runRow_14 rfl (lv_at hl 1 rfl) ?_
      refine lv_iload hx hb dX1_runRow_15 (lv_at hl 4 rfl) ?_
      refine cu_aaldK hi hx hb hK hP dX1_runRow_17 ?_
      refine lv_iload_n hx hb dX1_runRow_18 rfl (lv_at hl 2 rfl) ?_
      have sp := cu_spK (C := C) (a := a) (n := (nI N)) (m := mn) (K := (k_upto (k_min v1) K i)) (P := P) hi (k_min v1 ((k_upto (k_min v1) K i) i))
      refine cu_callV (va_runVN (As := [.int v1]) (rest := []) ⟨hx, hb, hml, hown, hts⟩ ((m_X0_runMinute l D C (a (3 + i)) ((k_upto (k_min v1) K i) i) v1) H.size) ⟨(va_cnB 1 hts gX1_runRow_X0_runMinute_n111 rfl rfl rfl (hG.2.1 (111, yX0_runMinute) (by decide +kernel)) (hts (.initialized RX0) (by decide +kernel)) (by decide +kernel) ⟨Nat.le_of_ble_eq_true rfl, Nat.le_of_ble_eq_true rfl⟩), hts (.instanceMethod yX0_runMinute) (by decide +kernel), hts (.selects RX0 yX0_runMinute yX0_runMinute) (by decide +kernel)⟩ (cu_preV (ci := 0) sp hG hP hD rfl rfl) rfl rfl hl.1 rfl (lv_room (Nat.le_of_ble_eq_true rfl)) dX1_runRow_19 ⟨Nat.le_of_ble_eq_true rfl, Nat.le_of_ble_eq_true rfl⟩) sp hP hD hS hA (fun H locs hP hD hS => ?_)
      have hP : va_P D vwCl (cu_cw C a (nI N) mn (va_up (k_upto (k_min v1) K i) i (k_min v1 ((k_upto (k_min v1) K i) i))) P) H := hP
      have hD : va_D A (cu_cw C a (nI N) mn (va_up (k_upto (k_min v1) K i) i (k_min v1 ((k_upto (k_min v1) K i) i))) P) := hD
      rw [k_upto_i, k_upto_s] at hP hD
      refine lv_iload_n hx hb dX1_runRow_22 rfl (lv_at hl 3 rfl) ?_
      refine lv_aload_n hx hb dX1_runRow_23 rfl (lv_at hl 1 rfl) ?_
      refine lv_iload hx hb dX1_runRow_24 (lv_at hl 4 rfl) ?_
      refine cu_aaldK hi hx hb hK hP dX1_runRow_26 ?_
      refine va_getN (host := RX1) (D := D) (ci := 0) (v := .int (((k_upto (k_min v1) K (i + 1)) i) 8)) (C := RX0) (T := TX0) (N := 14) hx hb hts hiX0 hown hK hP (3 + i) (cu_cw_K hi) rfl 13 (by decide) (va_Nw.use rfl (hG.2.2.1 (114, "latestCalls", "I") (by decide +kernel))) (fun _ h9 => h9) rfl dX1_runRow_27 ?_
      refine cu_top (x' := k_min v1 (K i) 8) (by simp [k_upto]) ?_
      refine lv_iadd hx hb dX1_runRow_30 ?_
      refine lv_istore_n (lv' := [(3, .int ((k_sum (fun c => k_min v1 (K c) 8) i) + (k_min v1 (K i) 8))), (0, .ref (a 0)), (1, .ref (a 1)), (2, .int v1), (4, .int (nI i))]) hx hb dX1_runRow_31 rfl hl (by decide) rfl (fun ls hl => ?_)
      refine lv_iinc (v := (nI (i + 1))) (lv' := [(4, .int (nI (i + 1))), (3, .int ((k_sum (fun c => k_min v1 (K c) 8) i) + (k_min v1 (K i) 8))), (0, .ref (a 0)), (1, .ref (a 1)), (2, .int v1)]) hx hb dX1_runRow_32 hl (k := 4) rfl (nI_1 i) (by decide) rfl (fun ls hl => ?_)
      refine lv_goto (tgt := 5) hx hb dX1_runRow_35 (by decide) ?_
      exact ih (i + 1) (by omega) _ _ _ hP hD hS (lv_sub hl [2, 3, 4, 1, 0] rfl)
  exact loop N 0 (by omega) _ _ _ hP hD hS (lv_sub hl [2, 3, 4, 1, 0] rfl)

set_option maxHeartbeats 4000000 in
set_option maxRecDepth 100000 in
theorem m_X1_sumOf (l : Launch) (D : va_G) (C : Nat → ClassId) (a : Nat → Nat) (N : Nat) (hN : N ≤ 10) (mn : Int32) (K P : Nat → Nat → Int32) (v1 : Int32) : cu_I l D C yX1_sumOf wsX1_sumOf { frames := 3, cells := 0, slots := 0, locals := 64 } [.ref (a 0), .ref (a 1), .int v1] (cu_cw C a (nI N) mn K P) (cu_cw C a (nI N) mn K P) (k_all N K v1) 0 0 := by
  refine cu_openI (cc := cX1_sumOf) (maxL := 5) (ty := .int) (own := RX1) (by decide) rfl rfl (Nat.le_of_ble_eq_true rfl) ?_
  intro p e s m args below meth c A Z H0 ls e0 hx hb hml hts hown hnm hG hP hD hS hA hl fin
  have hK := hG.1
  have hl : lv_has ls 5 [(0, .ref (a 0)), (1, .ref (a 1)), (2, .int v1)] := hl
  have hiX1 : ∀ w ∈ wsX10, w ∈ wsX1_sumOf := by decide +kernel
  refine lv_iconst (v := 0) hx hb dX1_sumOf_0 (by decide) ?_
  refine lv_istore_n (lv' := [(3, .int 0), (0, .ref (a 0)), (1, .ref (a 1)), (2, .int v1)]) hx hb dX1_sumOf_1 rfl hl (by decide) rfl (fun ls hl => ?_)
  refine lv_iconst (v := 0) hx hb dX1_sumOf_2 (by decide) ?_
  refine lv_istore (lv' := [(4, .int 0), (3, .int 0), (0, .ref (a 0)), (1, .ref (a 1)), (2, .int v1)]) hx hb dX1_sumOf_3 hl (by decide) rfl (fun ls hl => ?_)
  have loop : ∀ (j : Nat), ∀ (i : Nat), i + j = N → ∀ (H : Heap) (locs : List Loc) (ls : Array Slot), va_P D vwCl (cu_cw C a (nI N) mn K P) H → va_D A (cu_cw C a (nI N) mn K P) → va_S A H0 H locs → lv_has ls 5 [(0, .ref (a 0)), (1, .ref (a 1)), (2, .int v1), (3, .int (k_sum (fun c => k_read (K c) v1) i)), (4, .int (nI i))] → W p l e { frames := 3, cells := 0, slots := 0, locals := 64 } s m args below meth c H locs 0 0 Z (F0 m 5 ls []) := by
    intro j
    induction j with
    | zero =>
      intro i hj H locs ls hP hD hS hl
      have eN : i = N := by omega
      refine lv_iload hx hb dX1_sumOf_5 (lv_at hl 4 rfl) ?_
      refine lv_aload_n hx hb dX1_sumOf_7 rfl (lv_at hl 0 rfl) ?_
      refine va_get (D := D) (ci := 1) (v := .int (nI N)) (C := RX1) (T := TX1) (N := 4) hx hb hts hiX1 hown hK hP 0 rfl rfl 2 (by decide) (hts (.fieldLink RX1 19 "CuckooShop" "present" "I") (by decide +kernel)) (fun _ h9 => h9) rfl dX1_sumOf_8 ?_
      refine lv_icmp_ge (tgt := 31) hx hb dX1_sumOf_11 (by decide) (fun c_11 => ?_) (fun c_11 => absurd (nI_le (a := N) (by omega) (by omega)) c_11)
      refine lv_iload_n hx hb dX1_sumOf_31 rfl (lv_at hl 3 rfl) ?_
      exact fin _ _ _ _ _ rfl (by rw [eN]; rfl) hP hS dX1_sumOf_32
    | succ j ih =>
      intro i hj H locs ls hP hD hS hl
      have hi : i < 10 := by omega
      refine lv_iload hx hb dX1_sumOf_5 (lv_at hl 4 rfl) ?_
      refine lv_aload_n hx hb dX1_sumOf_7 rfl (lv_at hl 0 rfl) ?_
      refine va_get (D := D) (ci := 1) (v := .int (nI N)) (C := RX1) (T := TX1) (N := 4) hx hb hts hiX1 hown hK hP 0 rfl rfl 2 (by decide) (hts (.fieldLink RX1 19 "CuckooShop" "present" "I") (by decide +kernel)) (fun _ h9 => h9) rfl dX1_sumOf_8 ?_
      refine lv_icmp_ge (tgt := 31) hx hb dX1_sumOf_11 (by decide) (fun c_11 => absurd c_11 (nI_ge (b := N) (by omega) (by omega))) (fun c_11 => ?_)
      refine lv_iload_n hx hb dX1_sumOf_14 rfl (lv_at hl 3 rfl) ?_
      refine lv_aload_n hx hb dX1_sumOf_15 rfl (lv_at hl 1 rfl) ?_
      refine lv_iload hx hb dX1_sumOf_16 (lv_at hl 4 rfl) ?_
      refine cu_aaldK hi hx hb hK hP dX1_sumOf_18 ?_
      refine lv_iload_n hx hb dX1_sumOf_19 rfl (lv_at hl 2 rfl) ?_
      have sp := cu_sp.rd (cu_cw_K (C := C) (a := a) (n := (nI N)) (m := mn) (K := K) (P := P) hi)
      refine cu_callI (va_runVN (As := [.int v1]) (rest := [.int (k_sum (fun c => k_read (K c) v1) i)]) ⟨hx, hb, hml, hown, hts⟩ ((m_X0_reading l D C (a (3 + i)) (K i) v1) H.size) ⟨(va_cnB 1 hts gX1_sumOf_X0_reading_n91 rfl rfl rfl (hG.2.1 (91, yX0_reading) (by decide +kernel)) (hts (.initialized RX0) (by decide +kernel)) (by decide +kernel) ⟨Nat.le_of_ble_eq_true rfl, Nat.le_of_ble_eq_true rfl⟩), hts (.instanceMethod yX0_reading) (by decide +kernel), hts (.selects RX0 yX0_reading yX0_reading) (by decide +kernel)⟩ (cu_preV (ci := 0) sp hG hP hD rfl rfl) rfl rfl hl.1 rfl (lv_room (Nat.le_of_ble_eq_true rfl)) dX1_sumOf_20 ⟨Nat.le_of_ble_eq_true rfl, Nat.le_of_ble_eq_true rfl⟩) sp hP hD hS hA (fun H locs hP hD hS => ?_)
      have hP : va_P D vwCl (cu_cw C a (nI N) mn K P) H := hP
      have hD : va_D A (cu_cw C a (nI N) mn K P) := hD
      refine lv_iadd hx hb dX1_sumOf_23 ?_
      refine lv_istore_n (lv' := [(3, .int ((k_sum (fun c => k_read (K c) v1) i) + (k_read (K i) v1))), (0, .ref (a 0)), (1, .ref (a 1)), (2, .int v1), (4, .int (nI i))]) hx hb dX1_sumOf_24 rfl hl (by decide) rfl (fun ls hl => ?_)
      refine lv_iinc (v := (nI (i + 1))) (lv' := [(4, .int (nI (i + 1))), (3, .int ((k_sum (fun c => k_read (K c) v1) i) + (k_read (K i) v1))), (0, .ref (a 0)), (1, .ref (a 1)), (2, .int v1)]) hx hb dX1_sumOf_25 hl (k := 4) rfl (nI_1 i) (by decide) rfl (fun ls hl => ?_)
      refine lv_goto (tgt := 5) hx hb dX1_sumOf_28 (by decide) ?_
      exact ih (i + 1) (by omega) _ _ _ hP hD hS (lv_sub hl [2, 3, 4, 1, 0] rfl)
  exact loop N 0 (by omega) _ _ _ hP hD hS (lv_sub hl [2, 3, 4, 1, 0] rfl)

set_option maxHeartbeats 4000000 in
set_option maxRecDepth 100000 in
theorem m_X1_offOfAll (l : Launch) (D : va_G) (C : Nat → ClassId) (a : Nat → Nat) (N : Nat) (hN : N ≤ 10) (mn : Int32) (K P : Nat → Nat → Int32) (v1 : Int32) : cu_I l D C yX1_offOfAll wsX1_offOfAll { frames := 3, cells := 0, slots := 0, locals := 64 } [.ref (a 0), .ref (a 1), .int v1] (cu_cw C a (nI N) mn K P) (cu_cw C a (nI N) mn K P) (k_offs N K v1) 0 0 := by
  refine cu_openI (cc := cX1_offOfAll) (maxL := 5) (ty := .int) (own := RX1) (by decide) rfl rfl (Nat.le_of_ble_eq_true rfl) ?_
  intro p e s m args below meth c A Z H0 ls e0 hx hb hml hts hown hnm hG hP hD hS hA hl fin
  have hK := hG.1
  have hl : lv_has ls 5 [(0, .ref (a 0)), (1, .ref (a 1)), (2, .int v1)] := hl
  have hiX1 : ∀ w ∈ wsX10, w ∈ wsX1_offOfAll := by decide +kernel
  refine lv_iconst (v := 0) hx hb dX1_offOfAll_0 (by decide) ?_
  refine lv_istore_n (lv' := [(3, .int 0), (0, .ref (a 0)), (1, .ref (a 1)), (2, .int v1)]) hx hb dX1_offOfAll_1 rfl hl (by decide) rfl (fun ls hl => ?_)
  refine lv_iconst (v := 0) hx hb dX1_offOfAll_2 (by decide) ?_
  refine lv_istore (lv' := [(4, .int 0), (3, .int 0), (0, .ref (a 0)), (1, .ref (a 1)), (2, .int v1)]) hx hb dX1_offOfAll_3 hl (by decide) rfl (fun ls hl => ?_)
  have loop : ∀ (j : Nat), ∀ (i : Nat), i + j = N → ∀ (H : Heap) (locs : List Loc) (ls : Array Slot), va_P D vwCl (cu_cw C a (nI N) mn K P) H → va_D A (cu_cw C a (nI N) mn K P) → va_S A H0 H locs → lv_has ls 5 [(0, .ref (a 0)), (1, .ref (a 1)), (2, .int v1), (3, .int (k_sum (fun c => k_abs (k_off (K c) v1)) i)), (4, .int (nI i))] → W p l e { frames := 3, cells := 0, slots := 0, locals := 64 } s m args below meth c H locs 0 0 Z (F0 m 5 ls []) := by
    intro j
    induction j with
    | zero =>
      intro i hj H locs ls hP hD hS hl
      have eN : i = N := by omega
      refine lv_iload hx hb dX1_offOfAll_5 (lv_at hl 4 rfl) ?_
      refine lv_aload_n hx hb dX1_offOfAll_7 rfl (lv_at hl 0 rfl) ?_
      refine va_get (D := D) (ci := 1) (v := .int (nI N)) (C := RX1) (T := TX1) (N := 4) hx hb hts hiX1 hown hK hP 0 rfl rfl 2 (by decide) (hts (.fieldLink RX1 19 "CuckooShop" "present" "I") (by decide +kernel)) (fun _ h9 => h9) rfl dX1_offOfAll_8 ?_
      refine lv_icmp_ge (tgt := 34) hx hb dX1_offOfAll_11 (by decide) (fun c_11 => ?_) (fun c_11 => absurd (nI_le (a := N) (by omega) (by omega)) c_11)
      refine lv_iload_n hx hb dX1_offOfAll_34 rfl (lv_at hl 3 rfl) ?_
      exact fin _ _ _ _ _ rfl (by rw [eN]; rfl) hP hS dX1_offOfAll_35
    | succ j ih =>
      intro i hj H locs ls hP hD hS hl
      have hi : i < 10 := by omega
      refine lv_iload hx hb dX1_offOfAll_5 (lv_at hl 4 rfl) ?_
      refine lv_aload_n hx hb dX1_offOfAll_7 rfl (lv_at hl 0 rfl) ?_
      refine va_get (D := D) (ci := 1) (v := .int (nI N)) (C := RX1) (T := TX1) (N := 4) hx hb hts hiX1 hown hK hP 0 rfl rfl 2 (by decide) (hts (.fieldLink RX1 19 "CuckooShop" "present" "I") (by decide +kernel)) (fun _ h9 => h9) rfl dX1_offOfAll_8 ?_
      refine lv_icmp_ge (tgt := 34) hx hb dX1_offOfAll_11 (by decide) (fun c_11 => absurd c_11 (nI_ge (b := N) (by omega) (by omega))) (fun c_11 => ?_)
      refine lv_iload_n hx hb dX1_offOfAll_14 rfl (lv_at hl 3 rfl) ?_
      refine lv_aload_n hx hb dX1_offOfAll_15 rfl (lv_at hl 1 rfl) ?_
      refine lv_iload hx hb dX1_offOfAll_16 (lv_at hl 4 rfl) ?_
      refine cu_aaldK hi hx hb hK hP dX1_offOfAll_18 ?_
      refine lv_iload_n hx hb dX1_offOfAll_19 rfl (lv_at hl 2 rfl) ?_
      have sp := cu_sp.rd (cu_cw_K (C := C) (a := a) (n := (nI N)) (m := mn) (K := K) (P := P) hi)
      refine cu_callI (va_runS (As := [.ref (a (3 + i)), .int v1]) (rest := [.int (k_sum (fun c => k_abs (k_off (K c) v1)) i)]) ⟨hx, hb, hml, hown, hts⟩ ((m_X1_offOf l D C (a (3 + i)) (K i) v1) H.size) (va_cwS 2 hts gX1_offOfAll_X1_offOf rfl rfl rfl (by decide +kernel) ⟨Nat.le_of_ble_eq_true rfl, Nat.le_of_ble_eq_true rfl⟩) (cu_preS sp hG hP hD) rfl rfl hl.1 rfl (lv_room (Nat.le_of_ble_eq_true rfl)) dX1_offOfAll_20 ⟨Nat.le_of_ble_eq_true rfl, Nat.le_of_ble_eq_true rfl⟩) sp hP hD hS hA (fun H locs hP hD hS => ?_)
      refine va_mabs hx hb (hml.trans hl.1.symm) hown (hts (.methodLink RX1 166 Lib.Math.abs.name) (by decide +kernel)) (hts (.static Lib.Math.abs.name) (by decide +kernel)) (hts (.initialized "java/lang/Math") (by decide +kernel)) (hts (.code Lib.Math.abs.name Lib.Math.abs.code 1 (some .int)) (by decide +kernel)) (Nat.le_of_ble_eq_true rfl) (Nat.le_of_ble_eq_true rfl) (Nat.zero_le _) (Nat.zero_le _) dX1_offOfAll_23 ?_
      refine lv_iadd hx hb dX1_offOfAll_26 ?_
      refine lv_istore_n (lv' := [(3, .int ((k_sum (fun c => k_abs (k_off (K c) v1)) i) + (if 0 ≤ (k_off (K i) v1) then (k_off (K i) v1) else 0 - (k_off (K i) v1)))), (0, .ref (a 0)), (1, .ref (a 1)), (2, .int v1), (4, .int (nI i))]) hx hb dX1_offOfAll_27 rfl hl (by decide) rfl (fun ls hl => ?_)
      refine lv_iinc (v := (nI (i + 1))) (lv' := [(4, .int (nI (i + 1))), (3, .int ((k_sum (fun c => k_abs (k_off (K c) v1)) i) + (if 0 ≤ (k_off (K i) v1) then (k_off (K i) v1) else 0 - (k_off (K i) v1)))), (0, .ref (a 0)), (1, .ref (a 1)), (2, .int v1)]) hx hb dX1_offOfAll_28 hl (k := 4) rfl (nI_1 i) (by decide) rfl (fun ls hl => ?_)
      refine lv_goto (tgt := 5) hx hb dX1_offOfAll_31 (by decide) ?_
      exact ih (i + 1) (by omega) _ _ _ hP hD hS (lv_sub hl [2, 3, 4, 1, 0] rfl)
  exact loop N 0 (by omega) _ _ _ hP hD hS (lv_sub hl [2, 3, 4, 1, 0] rfl)

set_option maxHeartbeats 4000000 in
set_option maxRecDepth 100000 in
theorem m_X1_runRowP (l : Launch) (D : va_G) (C : Nat → ClassId) (a : Nat → Nat) (N : Nat) (hN : N ≤ 10) (mn : Int32) (K P : Nat → Nat → Int32) (v1 : Int32) : cu_I l D C yX1_runRow wsX1_runRow { frames := 4, cells := 0, slots := 0, locals := 86 } [.ref (a 0), .ref (a 2), .int v1] (cu_cw C a (nI N) mn K P) (cu_cw C a (nI N) mn K (k_upto (k_min v1) P N)) (k_lat N v1 P) 0 0 := by
  refine cu_openI (cc := cX1_runRow) (maxL := 5) (ty := .int) (own := RX1) (by decide) rfl rfl (Nat.le_of_ble_eq_true rfl) ?_
  intro p e s m args below meth c A Z H0 ls e0 hx hb hml hts hown hnm hG hP hD hS hA hl fin
  have hK := hG.1
  have hl : lv_has ls 5 [(0, .ref (a 0)), (1, .ref (a 2)), (2, .int v1)] := hl
  have hiX0 : ∀ w ∈ wsX00, w ∈ wsX1_runRow := by decide +kernel
  have hiX1 : ∀ w ∈ wsX10, w ∈ wsX1_runRow := by decide +kernel
  refine lv_iconst (v := 0) hx hb dX1_runRow_0 (by decide) ?_
  refine lv_istore_n (lv' := [(3, .int 0), (0, .ref (a 0)), (1, .ref (a 2)), (2, .int v1)]) hx hb dX1_runRow_1 rfl hl (by decide) rfl (fun ls hl => ?_)
  refine lv_iconst (v := 0) hx hb dX1_runRow_2 (by decide) ?_
  refine lv_istore (lv' := [(4, .int 0), (3, .int 0), (0, .ref (a 0)), (1, .ref (a 2)), (2, .int v1)]) hx hb dX1_runRow_3 hl (by decide) rfl (fun ls hl => ?_)
  rw [← k_upto_0 (g := k_min v1) (K := P)] at hP hD
  have loop : ∀ (j : Nat), ∀ (i : Nat), i + j = N → ∀ (H : Heap) (locs : List Loc) (ls : Array Slot), va_P D vwCl (cu_cw C a (nI N) mn K (k_upto (k_min v1) P i)) H → va_D A (cu_cw C a (nI N) mn K (k_upto (k_min v1) P i)) → va_S A H0 H locs → lv_has ls 5 [(0, .ref (a 0)), (1, .ref (a 2)), (2, .int v1), (3, .int (k_sum (fun c => k_min v1 (P c) 8) i)), (4, .int (nI i))] → W p l e { frames := 4, cells := 0, slots := 0, locals := 86 } s m args below meth c H locs 0 0 Z (F0 m 5 ls []) := by
    intro j
    induction j with
    | zero =>
      intro i hj H locs ls hP hD hS hl
      have eN : i = N := by omega
      refine lv_iload hx hb dX1_runRow_5 (lv_at hl 4 rfl) ?_
      refine lv_aload_n hx hb dX1_runRow_7 rfl (lv_at hl 0 rfl) ?_
      refine va_get (D := D) (ci := 1) (v := .int (nI N)) (C := RX1) (T := TX1) (N := 4) hx hb hts hiX1 hown hK hP 0 rfl rfl 2 (by decide) (hts (.fieldLink RX1 19 "CuckooShop" "present" "I") (by decide +kernel)) (fun _ h9 => h9) rfl dX1_runRow_8 ?_
      refine lv_icmp_ge (tgt := 38) hx hb dX1_runRow_11 (by decide) (fun c_11 => ?_) (fun c_11 => absurd (nI_le (a := N) (by omega) (by omega)) c_11)
      refine lv_iload_n hx hb dX1_runRow_38 rfl (lv_at hl 3 rfl) ?_
      exact fin _ _ _ _ _ rfl (by rw [eN]; rfl) (by rw [eN] at hP; exact hP) hS dX1_runRow_39
    | succ j ih =>
      intro i hj H locs ls hP hD hS hl
      have hi : i < 10 := by omega
      refine lv_iload hx hb dX1_runRow_5 (lv_at hl 4 rfl) ?_
      refine lv_aload_n hx hb dX1_runRow_7 rfl (lv_at hl 0 rfl) ?_
      refine va_get (D := D) (ci := 1) (v := .int (nI N)) (C := RX1) (T := TX1) (N := 4) hx hb hts hiX1 hown hK hP 0 rfl rfl 2 (by decide) (hts (.fieldLink RX1 19 "CuckooShop" "present" "I") (by decide +kernel)) (fun _ h9 => h9) rfl dX1_runRow_8 ?_
      refine lv_icmp_ge (tgt := 38) hx hb dX1_runRow_11 (by decide) (fun c_11 => absurd c_11 (nI_ge (b := N) (by omega) (by omega))) (fun c_11 => ?_)
      refine lv_aload_n hx hb dX1_runRow_14 rfl (lv_at hl 1 rfl) ?_
      refine lv_iload hx hb dX1_runRow_15 (lv_at hl 4 rfl) ?_
      refine cu_aaldP hi hx hb hK hP dX1_runRow_17 ?_
      refine lv_iload_n hx hb dX1_runRow_18 rfl (lv_at hl 2 rfl) ?_
      have sp := cu_spP (C := C) (a := a) (n := (nI N)) (m := mn) (K := K) (P := (k_upto (k_min v1) P i)) hi (k_min v1 ((k_upto (k_min v1) P i) i))
      refine cu_callV (va_runVN (As := [.int v1]) (rest := []) ⟨hx, hb, hml, hown, hts⟩ ((m_X0_runMinute l D C (a (13 + i)) ((k_upto (k_min v1) P i) i) v1) H.size) ⟨(va_cnB 1 hts gX1_runRow_X0_runMinute_n111 rfl rfl rfl (hG.2.1 (111, yX0_runMinute) (by decide +kernel)) (hts (.initialized RX0) (by decide +kernel)) (by decide +kernel) ⟨Nat.le_of_ble_eq_true rfl, Nat.le_of_ble_eq_true rfl⟩), hts (.instanceMethod yX0_runMinute) (by decide +kernel), hts (.selects RX0 yX0_runMinute yX0_runMinute) (by decide +kernel)⟩ (cu_preV (ci := 0) sp hG hP hD rfl rfl) rfl rfl hl.1 rfl (lv_room (Nat.le_of_ble_eq_true rfl)) dX1_runRow_19 ⟨Nat.le_of_ble_eq_true rfl, Nat.le_of_ble_eq_true rfl⟩) sp hP hD hS hA (fun H locs hP hD hS => ?_)
      have hP : va_P D vwCl (cu_cw C a (nI N) mn K (va_up (k_upto (k_min v1) P i) i (k_min v1 ((k_upto (k_min v1) P i) i)))) H := hP
      have hD : va_D A (cu_cw C a (nI N) mn K (va_up (k_upto (k_min v1) P i) i (k_min v1 ((k_upto (k_min v1) P i) i)))) := hD
      rw [k_upto_i, k_upto_s] at hP hD
      refine lv_iload_n hx hb dX1_runRow_22 rfl (lv_at hl 3 rfl) ?_
      refine lv_aload_n hx hb dX1_runRow_23 rfl (lv_at hl 1 rfl) ?_
      refine lv_iload hx hb dX1_runRow_24 (lv_at hl 4 rfl) ?_
      refine cu_aaldP hi hx hb hK hP dX1_runRow_26 ?_
      refine va_getN (host := RX1) (D := D) (ci := 0) (v := .int (((k_upto (k_min v1) P (i + 1)) i) 8)) (C := RX0) (T := TX0) (N := 14) hx hb hts hiX0 hown hK hP (13 + i) (cu_cw_P hi) rfl 13 (by decide) (va_Nw.use rfl (hG.2.2.1 (114, "latestCalls", "I") (by decide +kernel))) (fun _ h9 => h9) rfl dX1_runRow_27 ?_
      refine cu_top (x' := k_min v1 (P i) 8) (by simp [k_upto]) ?_
      refine lv_iadd hx hb dX1_runRow_30 ?_
      refine lv_istore_n (lv' := [(3, .int ((k_sum (fun c => k_min v1 (P c) 8) i) + (k_min v1 (P i) 8))), (0, .ref (a 0)), (1, .ref (a 2)), (2, .int v1), (4, .int (nI i))]) hx hb dX1_runRow_31 rfl hl (by decide) rfl (fun ls hl => ?_)
      refine lv_iinc (v := (nI (i + 1))) (lv' := [(4, .int (nI (i + 1))), (3, .int ((k_sum (fun c => k_min v1 (P c) 8) i) + (k_min v1 (P i) 8))), (0, .ref (a 0)), (1, .ref (a 2)), (2, .int v1)]) hx hb dX1_runRow_32 hl (k := 4) rfl (nI_1 i) (by decide) rfl (fun ls hl => ?_)
      refine lv_goto (tgt := 5) hx hb dX1_runRow_35 (by decide) ?_
      exact ih (i + 1) (by omega) _ _ _ hP hD hS (lv_sub hl [2, 3, 4, 1, 0] rfl)
  exact loop N 0 (by omega) _ _ _ hP hD hS (lv_sub hl [2, 3, 4, 1, 0] rfl)

set_option maxHeartbeats 4000000 in
set_option maxRecDepth 100000 in
theorem m_X1_sumOfP (l : Launch) (D : va_G) (C : Nat → ClassId) (a : Nat → Nat) (N : Nat) (hN : N ≤ 10) (mn : Int32) (K P : Nat → Nat → Int32) (v1 : Int32) : cu_I l D C yX1_sumOf wsX1_sumOf { frames := 3, cells := 0, slots := 0, locals := 64 } [.ref (a 0), .ref (a 2), .int v1] (cu_cw C a (nI N) mn K P) (cu_cw C a (nI N) mn K P) (k_all N P v1) 0 0 := by
  refine cu_openI (cc := cX1_sumOf) (maxL := 5) (ty := .int) (own := RX1) (by decide) rfl rfl (Nat.le_of_ble_eq_true rfl) ?_
  intro p e s m args below meth c A Z H0 ls e0 hx hb hml hts hown hnm hG hP hD hS hA hl fin
  have hK := hG.1
  have hl : lv_has ls 5 [(0, .ref (a 0)), (1, .ref (a 2)), (2, .int v1)] := hl
  have hiX1 : ∀ w ∈ wsX10, w ∈ wsX1_sumOf := by decide +kernel
  refine lv_iconst (v := 0) hx hb dX1_sumOf_0 (by decide) ?_
  refine lv_istore_n (lv' := [(3, .int 0), (0, .ref (a 0)), (1, .ref (a 2)), (2, .int v1)]) hx hb dX1_sumOf_1 rfl hl (by decide) rfl (fun ls hl => ?_)
  refine lv_iconst (v := 0) hx hb dX1_sumOf_2 (by decide) ?_
  refine lv_istore (lv' := [(4, .int 0), (3, .int 0), (0, .ref (a 0)), (1, .ref (a 2)), (2, .int v1)]) hx hb dX1_sumOf_3 hl (by decide) rfl (fun ls hl => ?_)
  have loop : ∀ (j : Nat), ∀ (i : Nat), i + j = N → ∀ (H : Heap) (locs : List Loc) (ls : Array Slot), va_P D vwCl (cu_cw C a (nI N) mn K P) H → va_D A (cu_cw C a (nI N) mn K P) → va_S A H0 H locs → lv_has ls 5 [(0, .ref (a 0)), (1, .ref (a 2)), (2, .int v1), (3, .int (k_sum (fun c => k_read (P c) v1) i)), (4, .int (nI i))] → W p l e { frames := 3, cells := 0, slots := 0, locals := 64 } s m args below meth c H locs 0 0 Z (F0 m 5 ls []) := by
    intro j
    induction j with
    | zero =>
      intro i hj H locs ls hP hD hS hl
      have eN : i = N := by omega
      refine lv_iload hx hb dX1_sumOf_5 (lv_at hl 4 rfl) ?_
      refine lv_aload_n hx hb dX1_sumOf_7 rfl (lv_at hl 0 rfl) ?_
      refine va_get (D := D) (ci := 1) (v := .int (nI N)) (C := RX1) (T := TX1) (N := 4) hx hb hts hiX1 hown hK hP 0 rfl rfl 2 (by decide) (hts (.fieldLink RX1 19 "CuckooShop" "present" "I") (by decide +kernel)) (fun _ h9 => h9) rfl dX1_sumOf_8 ?_
      refine lv_icmp_ge (tgt := 31) hx hb dX1_sumOf_11 (by decide) (fun c_11 => ?_) (fun c_11 => absurd (nI_le (a := N) (by omega) (by omega)) c_11)
      refine lv_iload_n hx hb dX1_sumOf_31 rfl (lv_at hl 3 rfl) ?_
      exact fin _ _ _ _ _ rfl (by rw [eN]; rfl) hP hS dX1_sumOf_32
    | succ j ih =>
      intro i hj H locs ls hP hD hS hl
      have hi : i < 10 := by omega
      refine lv_iload hx hb dX1_sumOf_5 (lv_at hl 4 rfl) ?_
      refine lv_aload_n hx hb dX1_sumOf_7 rfl (lv_at hl 0 rfl) ?_
      refine va_get (D := D) (ci := 1) (v := .int (nI N)) (C := RX1) (T := TX1) (N := 4) hx hb hts hiX1 hown hK hP 0 rfl rfl 2 (by decide) (hts (.fieldLink RX1 19 "CuckooShop" "present" "I") (by decide +kernel)) (fun _ h9 => h9) rfl dX1_sumOf_8 ?_
      refine lv_icmp_ge (tgt := 31) hx hb dX1_sumOf_11 (by decide) (fun c_11 => absurd c_11 (nI_ge (b := N) (by omega) (by omega))) (fun c_11 => ?_)
      refine lv_iload_n hx hb dX1_sumOf_14 rfl (lv_at hl 3 rfl) ?_
      refine lv_aload_n hx hb dX1_sumOf_15 rfl (lv_at hl 1 rfl) ?_
      refine lv_iload hx hb dX1_sumOf_16 (lv_at hl 4 rfl) ?_
      refine cu_aaldP hi hx hb hK hP dX1_sumOf_18 ?_
      refine lv_iload_n hx hb dX1_sumOf_19 rfl (lv_at hl 2 rfl) ?_
      have sp := cu_sp.rd (cu_cw_P (C := C) (a := a) (n := (nI N)) (m := mn) (K := K) (P := P) hi)
      refine cu_callI (va_runVN (As := [.int v1]) (rest := [.int (k_sum (fun c => k_read (P c) v1) i)]) ⟨hx, hb, hml, hown, hts⟩ ((m_X0_reading l D C (a (13 + i)) (P i) v1) H.size) ⟨(va_cnB 1 hts gX1_sumOf_X0_reading_n91 rfl rfl rfl (hG.2.1 (91, yX0_reading) (by decide +kernel)) (hts (.initialized RX0) (by decide +kernel)) (by decide +kernel) ⟨Nat.le_of_ble_eq_true rfl, Nat.le_of_ble_eq_true rfl⟩), hts (.instanceMethod yX0_reading) (by decide +kernel), hts (.selects RX0 yX0_reading yX0_reading) (by decide +kernel)⟩ (cu_preV (ci := 0) sp hG hP hD rfl rfl) rfl rfl hl.1 rfl (lv_room (Nat.le_of_ble_eq_true rfl)) dX1_sumOf_20 ⟨Nat.le_of_ble_eq_true rfl, Nat.le_of_ble_eq_true rfl⟩) sp hP hD hS hA (fun H locs hP hD hS => ?_)
      have hP : va_P D vwCl (cu_cw C a (nI N) mn K P) H := hP
      have hD : va_D A (cu_cw C a (nI N) mn K P) := hD
      refine lv_iadd hx hb dX1_sumOf_23 ?_
      refine lv_istore_n (lv' := [(3, .int ((k_sum (fun c => k_read (P c) v1) i) + (k_read (P i) v1))), (0, .ref (a 0)), (1, .ref (a 2)), (2, .int v1), (4, .int (nI i))]) hx hb dX1_sumOf_24 rfl hl (by decide) rfl (fun ls hl => ?_)
      refine lv_iinc (v := (nI (i + 1))) (lv' := [(4, .int (nI (i + 1))), (3, .int ((k_sum (fun c => k_read (P c) v1) i) + (k_read (P i) v1))), (0, .ref (a 0)), (1, .ref (a 2)), (2, .int v1)]) hx hb dX1_sumOf_25 hl (k := 4) rfl (nI_1 i) (by decide) rfl (fun ls hl => ?_)
      refine lv_goto (tgt := 5) hx hb dX1_sumOf_28 (by decide) ?_
      exact ih (i + 1) (by omega) _ _ _ hP hD hS (lv_sub hl [2, 3, 4, 1, 0] rfl)
  exact loop N 0 (by omega) _ _ _ hP hD hS (lv_sub hl [2, 3, 4, 1, 0] rfl)

set_option maxHeartbeats 4000000 in
set_option maxRecDepth 100000 in
theorem m_X1_offOfAllP (l : Launch) (D : va_G) (C : Nat → ClassId) (a : Nat → Nat) (N : Nat) (hN : N ≤ 10) (mn : Int32) (K P : Nat → Nat → Int32) (v1 : Int32) : cu_I l D C yX1_offOfAll wsX1_offOfAll { frames := 3, cells := 0, slots := 0, locals := 64 } [.ref (a 0), .ref (a 2), .int v1] (cu_cw C a (nI N) mn K P) (cu_cw C a (nI N) mn K P) (k_offs N P v1) 0 0 := by
  refine cu_openI (cc := cX1_offOfAll) (maxL := 5) (ty := .int) (own := RX1) (by decide) rfl rfl (Nat.le_of_ble_eq_true rfl) ?_
  intro p e s m args below meth c A Z H0 ls e0 hx hb hml hts hown hnm hG hP hD hS hA hl fin
  have hK := hG.1
  have hl : lv_has ls 5 [(0, .ref (a 0)), (1, .ref (a 2)), (2, .int v1)] := hl
  have hiX1 : ∀ w ∈ wsX10, w ∈ wsX1_offOfAll := by decide +kernel
  refine lv_iconst (v := 0) hx hb dX1_offOfAll_0 (by decide) ?_
  refine lv_istore_n (lv' := [(3, .int 0), (0, .ref (a 0)), (1, .ref (a 2)), (2, .int v1)]) hx hb dX1_offOfAll_1 rfl hl (by decide) rfl (fun ls hl => ?_)
  refine lv_iconst (v := 0) hx hb dX1_offOfAll_2 (by decide) ?_
  refine lv_istore (lv' := [(4, .int 0), (3, .int 0), (0, .ref (a 0)), (1, .ref (a 2)), (2, .int v1)]) hx hb dX1_offOfAll_3 hl (by decide) rfl (fun ls hl => ?_)
  have loop : ∀ (j : Nat), ∀ (i : Nat), i + j = N → ∀ (H : Heap) (locs : List Loc) (ls : Array Slot), va_P D vwCl (cu_cw C a (nI N) mn K P) H → va_D A (cu_cw C a (nI N) mn K P) → va_S A H0 H locs → lv_has ls 5 [(0, .ref (a 0)), (1, .ref (a 2)), (2, .int v1), (3, .int (k_sum (fun c => k_abs (k_off (P c) v1)) i)), (4, .int (nI i))] → W p l e { frames := 3, cells := 0, slots := 0, locals := 64 } s m args below meth c H locs 0 0 Z (F0 m 5 ls []) := by
    intro j
    induction j with
    | zero =>
      intro i hj H locs ls hP hD hS hl
      have eN : i = N := by omega
      refine lv_iload hx hb dX1_offOfAll_5 (lv_at hl 4 rfl) ?_
      refine lv_aload_n hx hb dX1_offOfAll_7 rfl (lv_at hl 0 rfl) ?_
      refine va_get (D := D) (ci := 1) (v := .int (nI N)) (C := RX1) (T := TX1) (N := 4) hx hb hts hiX1 hown hK hP 0 rfl rfl 2 (by decide) (hts (.fieldLink RX1 19 "CuckooShop" "present" "I") (by decide +kernel)) (fun _ h9 => h9) rfl dX1_offOfAll_8 ?_
      refine lv_icmp_ge (tgt := 34) hx hb dX1_offOfAll_11 (by decide) (fun c_11 => ?_) (fun c_11 => absurd (nI_le (a := N) (by omega) (by omega)) c_11)
      refine lv_iload_n hx hb dX1_offOfAll_34 rfl (lv_at hl 3 rfl) ?_
      exact fin _ _ _ _ _ rfl (by rw [eN]; rfl) hP hS dX1_offOfAll_35
    | succ j ih =>
      intro i hj H locs ls hP hD hS hl
      have hi : i < 10 := by omega
      refine lv_iload hx hb dX1_offOfAll_5 (lv_at hl 4 rfl) ?_
      refine lv_aload_n hx hb dX1_offOfAll_7 rfl (lv_at hl 0 rfl) ?_
      refine va_get (D := D) (ci := 1) (v := .int (nI N)) (C := RX1) (T := TX1) (N := 4) hx hb hts hiX1 hown hK hP 0 rfl rfl 2 (by decide) (hts (.fieldLink RX1 19 "CuckooShop" "present" "I") (by decide +kernel)) (fun _ h9 => h9) rfl dX1_offOfAll_8 ?_
      refine lv_icmp_ge (tgt := 34) hx hb dX1_offOfAll_11 (by decide) (fun c_11 => absurd c_11 (nI_ge (b := N) (by omega) (by omega))) (fun c_11 => ?_)
      refine lv_iload_n hx hb dX1_offOfAll_14 rfl (lv_at hl 3 rfl) ?_
      refine lv_aload_n hx hb dX1_offOfAll_15 rfl (lv_at hl 1 rfl) ?_
      refine lv_iload hx hb dX1_offOfAll_16 (lv_at hl 4 rfl) ?_
      refine cu_aaldP hi hx hb hK hP dX1_offOfAll_18 ?_
      refine lv_iload_n hx hb dX1_offOfAll_19 rfl (lv_at hl 2 rfl) ?_
      have sp := cu_sp.rd (cu_cw_P (C := C) (a := a) (n := (nI N)) (m := mn) (K := K) (P := P) hi)
      refine cu_callI (va_runS (As := [.ref (a (13 + i)), .int v1]) (rest := [.int (k_sum (fun c => k_abs (k_off (P c) v1)) i)]) ⟨hx, hb, hml, hown, hts⟩ ((m_X1_offOf l D C (a (13 + i)) (P i) v1) H.size) (va_cwS 2 hts gX1_offOfAll_X1_offOf rfl rfl rfl (by decide +kernel) ⟨Nat.le_of_ble_eq_true rfl, Nat.le_of_ble_eq_true rfl⟩) (cu_preS sp hG hP hD) rfl rfl hl.1 rfl (lv_room (Nat.le_of_ble_eq_true rfl)) dX1_offOfAll_20 ⟨Nat.le_of_ble_eq_true rfl, Nat.le_of_ble_eq_true rfl⟩) sp hP hD hS hA (fun H locs hP hD hS => ?_)
      refine va_mabs hx hb (hml.trans hl.1.symm) hown (hts (.methodLink RX1 166 Lib.Math.abs.name) (by decide +kernel)) (hts (.static Lib.Math.abs.name) (by decide +kernel)) (hts (.initialized "java/lang/Math") (by decide +kernel)) (hts (.code Lib.Math.abs.name Lib.Math.abs.code 1 (some .int)) (by decide +kernel)) (Nat.le_of_ble_eq_true rfl) (Nat.le_of_ble_eq_true rfl) (Nat.zero_le _) (Nat.zero_le _) dX1_offOfAll_23 ?_
      refine lv_iadd hx hb dX1_offOfAll_26 ?_
      refine lv_istore_n (lv' := [(3, .int ((k_sum (fun c => k_abs (k_off (P c) v1)) i) + (if 0 ≤ (k_off (P i) v1) then (k_off (P i) v1) else 0 - (k_off (P i) v1)))), (0, .ref (a 0)), (1, .ref (a 2)), (2, .int v1), (4, .int (nI i))]) hx hb dX1_offOfAll_27 rfl hl (by decide) rfl (fun ls hl => ?_)
      refine lv_iinc (v := (nI (i + 1))) (lv' := [(4, .int (nI (i + 1))), (3, .int ((k_sum (fun c => k_abs (k_off (P c) v1)) i) + (if 0 ≤ (k_off (P i) v1) then (k_off (P i) v1) else 0 - (k_off (P i) v1)))), (0, .ref (a 0)), (1, .ref (a 2)), (2, .int v1)]) hx hb dX1_offOfAll_28 hl (k := 4) rfl (nI_1 i) (by decide) rfl (fun ls hl => ?_)
      refine lv_goto (tgt := 5) hx hb dX1_offOfAll_31 (by decide) ?_
      exact ih (i + 1) (by omega) _ _ _ hP hD hS (lv_sub hl [2, 3, 4, 1, 0] rfl)
  exact loop N 0 (by omega) _ _ _ hP hD hS (lv_sub hl [2, 3, 4, 1, 0] rfl)

set_option maxHeartbeats 4000000 in
set_option maxRecDepth 100000 in
theorem m_X1_copyClocks (l : Launch) (D : va_G) (C : Nat → ClassId) (a : Nat → Nat) (N : Nat) (hN : N ≤ 10) (mn : Int32) (K P : Nat → Nat → Int32) (h5 : ∀ c, c < N → K c 5 = 0 ∨ K c 5 = 1) : cu_V l D C yX1_copyClocks wsX1_copyClocks { frames := 1, cells := 0, slots := 0, locals := 21 } [.ref (a 0)] (cu_cw C a (nI N) mn K P) (cu_cw C a (nI N) mn K (k_cpy K P N)) 0 0 := by
  refine cu_openV (cc := cX1_copyClocks) (maxL := 2) (own := RX1) (by decide) rfl rfl (Nat.le_of_ble_eq_true rfl) ?_
  intro p e s m args below meth c A Z H0 ls e0 hx hb hml hts hown hnm hG hP hD hS hA hl fin
  have hK := hG.1
  have hl : lv_has ls 2 [(0, .ref (a 0))] := hl
  have hiX1 : ∀ w ∈ wsX10, w ∈ wsX1_copyClocks := by decide +kernel
  refine lv_iconst (v := 0) hx hb dX1_copyClocks_0 (by decide) ?_
  refine lv_istore_n (lv' := [(1, .int 0), (0, .ref (a 0))]) hx hb dX1_copyClocks_1 rfl hl (by decide) rfl (fun ls hl => ?_)
  rw [← k_cpy_0 (K := K) (P := P)] at hP hD
  have loop : ∀ (j : Nat), ∀ (i : Nat), i + j = N → ∀ (H : Heap) (locs : List Loc) (ls : Array Slot), va_P D vwCl (cu_cw C a (nI N) mn K (k_cpy K P i)) H → va_D A (cu_cw C a (nI N) mn K (k_cpy K P i)) → va_S A H0 H locs → lv_has ls 2 [(0, .ref (a 0)), (1, .int (nI i))] → W p l e { frames := 1, cells := 0, slots := 0, locals := 21 } s m args below meth c H locs 0 0 Z (F0 m 2 ls []) := by
    intro j
    induction j with
    | zero =>
      intro i hj H locs ls hP hD hS hl
      have eN : i = N := by omega
      refine lv_iload_n hx hb dX1_copyClocks_2 rfl (lv_at hl 1 rfl) ?_
      refine lv_aload_n hx hb dX1_copyClocks_3 rfl (lv_at hl 0 rfl) ?_
      refine va_get (D := D) (ci := 1) (v := .int (nI N)) (C := RX1) (T := TX1) (N := 4) hx hb hts hiX1 hown hK hP 0 rfl rfl 2 (by decide) (hts (.fieldLink RX1 19 "CuckooShop" "present" "I") (by decide +kernel)) (fun _ h9 => h9) rfl dX1_copyClocks_4 ?_
      refine lv_icmp_ge (tgt := 31) hx hb dX1_copyClocks_7 (by decide) (fun c_7 => ?_) (fun c_7 => absurd (nI_le (a := N) (by omega) (by omega)) c_7)
      exact fin _ _ _ _ (by rw [eN] at hP; exact hP) hS dX1_copyClocks_31
    | succ j ih =>
      intro i hj H locs ls hP hD hS hl
      have hi : i < 10 := by omega
      refine lv_iload_n hx hb dX1_copyClocks_2 rfl (lv_at hl 1 rfl) ?_
      refine lv_aload_n hx hb dX1_copyClocks_3 rfl (lv_at hl 0 rfl) ?_
      refine va_get (D := D) (ci := 1) (v := .int (nI N)) (C := RX1) (T := TX1) (N := 4) hx hb hts hiX1 hown hK hP 0 rfl rfl 2 (by decide) (hts (.fieldLink RX1 19 "CuckooShop" "present" "I") (by decide +kernel)) (fun _ h9 => h9) rfl dX1_copyClocks_4 ?_
      refine lv_icmp_ge (tgt := 31) hx hb dX1_copyClocks_7 (by decide) (fun c_7 => absurd c_7 (nI_ge (b := N) (by omega) (by omega))) (fun c_7 => ?_)
      refine lv_aload_n hx hb dX1_copyClocks_10 rfl (lv_at hl 0 rfl) ?_
      refine va_get (D := D) (ci := 1) (v := .ref (a 2)) (C := RX1) (T := TX1) (N := 4) hx hb hts hiX1 hown hK hP 0 rfl rfl 1 (by decide) (hts (.fieldLink RX1 15 "CuckooShop" "copies" "[LCuckooShop$Clock;") (by decide +kernel)) (fun _ h9 => h9) rfl dX1_copyClocks_11 ?_
      refine lv_iload_n hx hb dX1_copyClocks_14 rfl (lv_at hl 1 rfl) ?_
      refine cu_aaldP hi hx hb hK hP dX1_copyClocks_15 ?_
      refine lv_aload_n hx hb dX1_copyClocks_16 rfl (lv_at hl 0 rfl) ?_
      refine va_get (D := D) (ci := 1) (v := .ref (a 1)) (C := RX1) (T := TX1) (N := 4) hx hb hts hiX1 hown hK hP 0 rfl rfl 0 (by decide) (hts (.fieldLink RX1 11 "CuckooShop" "clocks" "[LCuckooShop$Clock;") (by decide +kernel)) (fun _ h9 => h9) rfl dX1_copyClocks_17 ?_
      refine lv_iload_n hx hb dX1_copyClocks_20 rfl (lv_at hl 1 rfl) ?_
      refine cu_aaldK hi hx hb hK hP dX1_copyClocks_21 ?_
      have sp := cu_spC (C := C) (a := a) (n := (nI N)) (m := mn) (K := K) (P := (k_cpy K P i)) hi
      refine cu_callV (va_runVN (As := [.ref (a (3 + i))]) (rest := []) ⟨hx, hb, hml, hown, hts⟩ ((m_X0_copyFrom l D C (a (13 + i)) ((k_cpy K P i) i) (a (3 + i)) (K i) (h5 i (by omega))) H.size) ⟨(va_cnB 1 hts gX1_copyClocks_X0_copyFrom_n107 rfl rfl rfl (hG.2.1 (107, yX0_copyFrom) (by decide +kernel)) (hts (.initialized RX0) (by decide +kernel)) (by decide +kernel) ⟨Nat.le_of_ble_eq_true rfl, Nat.le_of_ble_eq_true rfl⟩), hts (.instanceMethod yX0_copyFrom) (by decide +kernel), hts (.selects RX0 yX0_copyFrom yX0_copyFrom) (by decide +kernel)⟩ (cu_preV (ci := 0) sp hG hP hD rfl rfl) rfl rfl hl.1 rfl (lv_room (Nat.le_of_ble_eq_true rfl)) dX1_copyClocks_22 ⟨Nat.le_of_ble_eq_true rfl, Nat.le_of_ble_eq_true rfl⟩) sp hP hD hS hA (fun H locs hP hD hS => ?_)
      have hP : va_P D vwCl (cu_cw C a (nI N) mn K (va_up (k_cpy K P i) i (K i))) H := hP
      have hD : va_D A (cu_cw C a (nI N) mn K (va_up (k_cpy K P i) i (K i))) := hD
      rw [k_cpy_s] at hP hD
      refine lv_iinc (v := (nI (i + 1))) (lv' := [(1, .int (nI (i + 1))), (0, .ref (a 0))]) hx hb dX1_copyClocks_25 hl (k := 1) rfl (nI_1 i) (by decide) rfl (fun ls hl => ?_)
      refine lv_goto (tgt := 2) hx hb dX1_copyClocks_28 (by decide) ?_
      exact ih (i + 1) (by omega) _ _ _ hP hD hS (lv_sub hl [1, 0] rfl)
  exact loop N 0 (by omega) _ _ _ hP hD hS (lv_sub hl [1, 0] rfl)

set_option maxHeartbeats 4000000 in
set_option maxRecDepth 100000 in
theorem m_X1_trueClocks (l : Launch) (D : va_G) (C : Nat → ClassId) (a : Nat → Nat) (N : Nat) (hN : N ≤ 10) (mn : Int32) (K P : Nat → Nat → Int32) : cu_I l D C yX1_trueClocks wsX1_trueClocks { frames := 3, cells := 0, slots := 0, locals := 64 } [.ref (a 0)] (cu_cw C a (nI N) mn K P) (cu_cw C a (nI N) mn K P) (k_trues N K mn) 0 0 := by
  refine cu_openI (cc := cX1_trueClocks) (maxL := 3) (ty := .int) (own := RX1) (by decide) rfl rfl (Nat.le_of_ble_eq_true rfl) ?_
  intro p e s m args below meth c A Z H0 ls e0 hx hb hml hts hown hnm hG hP hD hS hA hl fin
  have hK := hG.1
  have hl : lv_has ls 3 [(0, .ref (a 0))] := hl
  have hiX1 : ∀ w ∈ wsX10, w ∈ wsX1_trueClocks := by decide +kernel
  refine lv_iconst (v := 0) hx hb dX1_trueClocks_0 (by decide) ?_
  refine lv_istore_n (lv' := [(1, .int 0), (0, .ref (a 0))]) hx hb dX1_trueClocks_1 rfl hl (by decide) rfl (fun ls hl => ?_)
  refine lv_iconst (v := 0) hx hb dX1_trueClocks_2 (by decide) ?_
  refine lv_istore_n (lv' := [(2, .int 0), (1, .int 0), (0, .ref (a 0))]) hx hb dX1_trueClocks_3 rfl hl (by decide) rfl (fun ls hl => ?_)
  have loop : ∀ (j : Nat), ∀ (i : Nat) (x1 : Int32), i + j = N → x1 = k_sum (fun c => if k_off (K c) mn = 0 then 1 else 0) i → ∀ (H : Heap) (locs : List Loc) (ls : Array Slot), va_P D vwCl (cu_cw C a (nI N) mn K P) H → va_D A (cu_cw C a (nI N) mn K P) → va_S A H0 H locs → lv_has ls 3 [(0, .ref (a 0)), (1, .int x1), (2, .int (nI i))] → W p l e { frames := 3, cells := 0, slots := 0, locals := 64 } s m args below meth c H locs 0 0 Z (F0 m 4 ls []) := by
    intro j
    induction j with
    | zero =>
      intro i x1 hj hx1 H locs ls hP hD hS hl
      have eN : i = N := by omega
      refine lv_iload_n hx hb dX1_trueClocks_4 rfl (lv_at hl 2 rfl) ?_
      refine lv_aload_n hx hb dX1_trueClocks_5 rfl (lv_at hl 0 rfl) ?_
      refine va_get (D := D) (ci := 1) (v := .int (nI N)) (C := RX1) (T := TX1) (N := 4) hx hb hts hiX1 hown hK hP 0 rfl rfl 2 (by decide) (hts (.fieldLink RX1 19 "CuckooShop" "present" "I") (by decide +kernel)) (fun _ h9 => h9) rfl dX1_trueClocks_6 ?_
      refine lv_icmp_ge (tgt := 37) hx hb dX1_trueClocks_9 (by decide) (fun c_9 => ?_) (fun c_9 => absurd (nI_le (a := N) (by omega) (by omega)) c_9)
      refine lv_iload_n hx hb dX1_trueClocks_37 rfl (lv_at hl 1 rfl) ?_
      exact fin _ _ _ _ _ rfl (by rw [hx1, eN]; rfl) hP hS dX1_trueClocks_38
    | succ j ih =>
      intro i x1 hj hx1 H locs ls hP hD hS hl
      have hi : i < 10 := by omega
      refine lv_iload_n hx hb dX1_trueClocks_4 rfl (lv_at hl 2 rfl) ?_
      refine lv_aload_n hx hb dX1_trueClocks_5 rfl (lv_at hl 0 rfl) ?_
      refine va_get (D := D) (ci := 1) (v := .int (nI N)) (C := RX1) (T := TX1) (N := 4) hx hb hts hiX1 hown hK hP 0 rfl rfl 2 (by decide) (hts (.fieldLink RX1 19 "CuckooShop" "present" "I") (by decide +kernel)) (fun _ h9 => h9) rfl dX1_trueClocks_6 ?_
      refine lv_icmp_ge (tgt := 37) hx hb dX1_trueClocks_9 (by decide) (fun c_9 => absurd c_9 (nI_ge (b := N) (by omega) (by omega))) (fun c_9 => ?_)
      refine lv_aload_n hx hb dX1_trueClocks_12 rfl (lv_at hl 0 rfl) ?_
      refine va_get (D := D) (ci := 1) (v := .ref (a 1)) (C := RX1) (T := TX1) (N := 4) hx hb hts hiX1 hown hK hP 0 rfl rfl 0 (by decide) (hts (.fieldLink RX1 11 "CuckooShop" "clocks" "[LCuckooShop$Clock;") (by decide +kernel)) (fun _ h9 => h9) rfl dX1_trueClocks_13 ?_
      refine lv_iload_n hx hb dX1_trueClocks_16 rfl (lv_at hl 2 rfl) ?_
      refine cu_aaldK hi hx hb hK hP dX1_trueClocks_17 ?_
      refine lv_aload_n hx hb dX1_trueClocks_18 rfl (lv_at hl 0 rfl) ?_
      refine va_get (D := D) (ci := 1) (v := .int mn) (C := RX1) (T := TX1) (N := 4) hx hb hts hiX1 hown hK hP 0 rfl rfl 3 (by decide) (hts (.fieldLink RX1 23 "CuckooShop" "minute" "I") (by decide +kernel)) (fun _ h9 => h9) rfl dX1_trueClocks_19 ?_
      have sp := cu_sp.rd (cu_cw_K (C := C) (a := a) (n := (nI N)) (m := mn) (K := K) (P := P) hi)
      refine cu_callI (va_runS (As := [.ref (a (3 + i)), .int mn]) (rest := []) ⟨hx, hb, hml, hown, hts⟩ ((m_X1_offOf l D C (a (3 + i)) (K i) mn) H.size) (va_cwS 2 hts gX1_trueClocks_X1_offOf rfl rfl rfl (by decide +kernel) ⟨Nat.le_of_ble_eq_true rfl, Nat.le_of_ble_eq_true rfl⟩) (cu_preS sp hG hP hD) rfl rfl hl.1 rfl (lv_room (Nat.le_of_ble_eq_true rfl)) dX1_trueClocks_22 ⟨Nat.le_of_ble_eq_true rfl, Nat.le_of_ble_eq_true rfl⟩) sp hP hD hS hA (fun H locs hP hD hS => ?_)
      refine lv_if_ne (tgt := 31) hx hb dX1_trueClocks_25 (by decide) (fun c_25 => ?_) (fun c_25 => ?_)
      · refine lv_iinc (v := (nI (i + 1))) (lv' := [(2, .int (nI (i + 1))), (0, .ref (a 0)), (1, .int x1)]) hx hb dX1_trueClocks_31 hl (k := 2) rfl (nI_1 i) (by decide) rfl (fun ls hl => ?_)
        refine lv_goto (tgt := 4) hx hb dX1_trueClocks_34 (by decide) ?_
        exact ih (i + 1) _ (by omega) (by show _ = k_sum _ i + (if k_off (K i) mn = 0 then 1 else 0); rw [if_neg c_25, hx1]; simp) _ _ _ hP hD hS (lv_sub hl [1, 2, 0] rfl)
      · refine lv_iinc (v := (x1 + 1)) (lv' := [(1, .int (x1 + 1)), (0, .ref (a 0)), (2, .int (nI i))]) hx hb dX1_trueClocks_28 hl (k := 1) rfl rfl (by decide) rfl (fun ls hl => ?_)
        refine lv_iinc (v := (nI (i + 1))) (lv' := [(2, .int (nI (i + 1))), (1, .int (x1 + 1)), (0, .ref (a 0))]) hx hb dX1_trueClocks_31 hl (k := 2) rfl (nI_1 i) (by decide) rfl (fun ls hl => ?_)
        refine lv_goto (tgt := 4) hx hb dX1_trueClocks_34 (by decide) ?_
        exact ih (i + 1) _ (by omega) (by show _ = k_sum _ i + (if k_off (K i) mn = 0 then 1 else 0); rw [if_pos c_25, hx1]) _ _ _ hP hD hS (lv_sub hl [2, 1, 0] rfl)
  exact loop N 0 0 (by omega) rfl _ _ _ hP hD hS (lv_sub hl [2, 1, 0] rfl)

set_option maxHeartbeats 4000000 in
set_option maxRecDepth 100000 in
theorem m_X1_tally (l : Launch) (D : va_G) (C : Nat → ClassId) (a : Nat → Nat) (N : Nat) (hN : N ≤ 10) (mn : Int32) (K P : Nat → Nat → Int32) (v1 : Int32) : cu_I l D C yX1_tally wsX1_tally { frames := 4, cells := 0, slots := 0, locals := 88 } [.ref (a 0), .int v1] (cu_cw C a (nI N) mn K P) (cu_cw C a (nI N) mn K P) (k_tally N K mn v1) 0 0 := by
  refine cu_openI (cc := cX1_tally) (maxL := 2) (ty := .int) (own := RX1) (by decide) rfl rfl (Nat.le_of_ble_eq_true rfl) ?_
  intro p e s m args below meth c A Z H0 ls e0 hx hb hml hts hown hnm hG hP hD hS hA hl fin
  have hK := hG.1
  have hl : lv_has ls 2 [(0, .ref (a 0)), (1, .int v1)] := hl
  have hiX1 : ∀ w ∈ wsX10, w ∈ wsX1_tally := by decide +kernel
  refine lv_iload_n hx hb dX1_tally_0 rfl (lv_at hl 1 rfl) ?_
  by_cases s_0 : v1 = 0
  · subst s_0
    refine lv_tableIn (off := 43) (tgt := 44) hx hb dX1_tally_1 (by decide) (by decide) (by decide) (by decide) ?_
    refine lv_aload_n hx hb dX1_tally_44 rfl (lv_at hl 0 rfl) ?_
    refine va_get (D := D) (ci := 1) (v := .int mn) (C := RX1) (T := TX1) (N := 4) hx hb hts hiX1 hown hK hP 0 rfl rfl 3 (by decide) (hts (.fieldLink RX1 23 "CuckooShop" "minute" "I") (by decide +kernel)) (fun _ h9 => h9) rfl dX1_tally_45 ?_
    exact fin _ _ _ _ _ rfl (by simp only [k_tally, reduceIte]) hP hS dX1_tally_48
  by_cases s_1 : v1 = 1
  · subst s_1
    refine lv_tableIn (off := 48) (tgt := 49) hx hb dX1_tally_1 (by decide) (by decide) (by decide) (by decide) ?_
    refine lv_aload_n hx hb dX1_tally_49 rfl (lv_at hl 0 rfl) ?_
    refine va_get (D := D) (ci := 1) (v := .int mn) (C := RX1) (T := TX1) (N := 4) hx hb hts hiX1 hown hK hP 0 rfl rfl 3 (by decide) (hts (.fieldLink RX1 23 "CuckooShop" "minute" "I") (by decide +kernel)) (fun _ h9 => h9) rfl dX1_tally_50 ?_
    have sp := cu_sp.nil (W0 := (cu_cw C a (nI N) mn K P))
    refine cu_callI (va_runS (As := [.int mn]) (rest := []) ⟨hx, hb, hml, hown, hts⟩ ((m_X1_trueTime l D C mn) H0.size) (va_cwS 1 hts gX1_tally_X1_trueTime rfl rfl rfl (by decide +kernel) ⟨Nat.le_of_ble_eq_true rfl, Nat.le_of_ble_eq_true rfl⟩) (cu_preS sp hG hP hD) rfl rfl hl.1 rfl (lv_room (Nat.le_of_ble_eq_true rfl)) dX1_tally_53 ⟨Nat.le_of_ble_eq_true rfl, Nat.le_of_ble_eq_true rfl⟩) sp hP hD hS hA (fun H locs hP hD hS => ?_)
    exact fin _ _ _ _ _ rfl (by simp only [k_tally, if_neg s_0, reduceIte]) hP hS dX1_tally_56
  by_cases s_2 : v1 = 2
  · subst s_2
    refine lv_tableIn (off := 56) (tgt := 57) hx hb dX1_tally_1 (by decide) (by decide) (by decide) (by decide) ?_
    refine lv_aload_n hx hb dX1_tally_57 rfl (lv_at hl 0 rfl) ?_
    refine va_get (D := D) (ci := 1) (v := .int (nI N)) (C := RX1) (T := TX1) (N := 4) hx hb hts hiX1 hown hK hP 0 rfl rfl 2 (by decide) (hts (.fieldLink RX1 19 "CuckooShop" "present" "I") (by decide +kernel)) (fun _ h9 => h9) rfl dX1_tally_58 ?_
    exact fin _ _ _ _ _ rfl (by simp only [k_tally, if_neg s_0, if_neg s_1, reduceIte]) hP hS dX1_tally_61
  by_cases s_3 : v1 = 3
  · subst s_3
    refine lv_tableIn (off := 61) (tgt := 62) hx hb dX1_tally_1 (by decide) (by decide) (by decide) (by decide) ?_
    refine lv_aload_n hx hb dX1_tally_62 rfl (lv_at hl 0 rfl) ?_
    refine lv_aload_n hx hb dX1_tally_63 rfl (lv_at hl 0 rfl) ?_
    refine va_get (D := D) (ci := 1) (v := .ref (a 1)) (C := RX1) (T := TX1) (N := 4) hx hb hts hiX1 hown hK hP 0 rfl rfl 0 (by decide) (hts (.fieldLink RX1 11 "CuckooShop" "clocks" "[LCuckooShop$Clock;") (by decide +kernel)) (fun _ h9 => h9) rfl dX1_tally_64 ?_
    refine lv_iconst (v := 5) hx hb dX1_tally_67 (by decide) ?_
    have sp := cu_sp.all (W0 := (cu_cw C a (nI N) mn K P)) (W1 := (cu_cw C a (nI N) mn K P)) rfl
    refine cu_callI (va_runV (As := [.ref (a 1), .int 5]) (rest := []) ⟨hx, hb, hml, hown, hts⟩ ((m_X1_sumOf l D C a N hN mn K P 5) H0.size) (cwV 2 hts gX1_tally_X1_sumOf rfl rfl rfl (by decide +kernel) ⟨Nat.le_of_ble_eq_true rfl, Nat.le_of_ble_eq_true rfl⟩) (cu_preV (ci := 1) sp hG hP hD rfl rfl) rfl rfl hl.1 rfl (lv_room (Nat.le_of_ble_eq_true rfl)) dX1_tally_68 ⟨Nat.le_of_ble_eq_true rfl, Nat.le_of_ble_eq_true rfl⟩) sp hP hD hS hA (fun H locs hP hD hS => ?_)
    have hP : va_P D vwCl (cu_cw C a (nI N) mn K P) H := hP
    have hD : va_D A (cu_cw C a (nI N) mn K P) := hD
    exact fin _ _ _ _ _ rfl (by simp only [k_tally, if_neg s_0, if_neg s_1, if_neg s_2, reduceIte]) hP hS dX1_tally_71
  by_cases s_4 : v1 = 4
  · subst s_4
    refine lv_tableIn (off := 71) (tgt := 72) hx hb dX1_tally_1 (by decide) (by decide) (by decide) (by decide) ?_
    refine lv_aload_n hx hb dX1_tally_72 rfl (lv_at hl 0 rfl) ?_
    refine lv_aload_n hx hb dX1_tally_73 rfl (lv_at hl 0 rfl) ?_
    refine va_get (D := D) (ci := 1) (v := .ref (a 1)) (C := RX1) (T := TX1) (N := 4) hx hb hts hiX1 hown hK hP 0 rfl rfl 0 (by decide) (hts (.fieldLink RX1 11 "CuckooShop" "clocks" "[LCuckooShop$Clock;") (by decide +kernel)) (fun _ h9 => h9) rfl dX1_tally_74 ?_
    refine lv_bipush (v := 7) hx hb dX1_tally_77 (by decide) ?_
    have sp := cu_sp.all (W0 := (cu_cw C a (nI N) mn K P)) (W1 := (cu_cw C a (nI N) mn K P)) rfl
    refine cu_callI (va_runV (As := [.ref (a 1), .int 7]) (rest := []) ⟨hx, hb, hml, hown, hts⟩ ((m_X1_sumOf l D C a N hN mn K P 7) H0.size) (cwV 2 hts gX1_tally_X1_sumOf rfl rfl rfl (by decide +kernel) ⟨Nat.le_of_ble_eq_true rfl, Nat.le_of_ble_eq_true rfl⟩) (cu_preV (ci := 1) sp hG hP hD rfl rfl) rfl rfl hl.1 rfl (lv_room (Nat.le_of_ble_eq_true rfl)) dX1_tally_79 ⟨Nat.le_of_ble_eq_true rfl, Nat.le_of_ble_eq_true rfl⟩) sp hP hD hS hA (fun H locs hP hD hS => ?_)
    have hP : va_P D vwCl (cu_cw C a (nI N) mn K P) H := hP
    have hD : va_D A (cu_cw C a (nI N) mn K P) := hD
    exact fin _ _ _ _ _ rfl (by simp only [k_tally, if_neg s_0, if_neg s_1, if_neg s_2, if_neg s_3, reduceIte]) hP hS dX1_tally_82
  by_cases s_5 : v1 = 5
  · subst s_5
    refine lv_tableIn (off := 82) (tgt := 83) hx hb dX1_tally_1 (by decide) (by decide) (by decide) (by decide) ?_
    refine lv_aload_n hx hb dX1_tally_83 rfl (lv_at hl 0 rfl) ?_
    refine lv_aload_n hx hb dX1_tally_84 rfl (lv_at hl 0 rfl) ?_
    refine va_get (D := D) (ci := 1) (v := .ref (a 1)) (C := RX1) (T := TX1) (N := 4) hx hb hts hiX1 hown hK hP 0 rfl rfl 0 (by decide) (hts (.fieldLink RX1 11 "CuckooShop" "clocks" "[LCuckooShop$Clock;") (by decide +kernel)) (fun _ h9 => h9) rfl dX1_tally_85 ?_
    refine lv_bipush (v := 9) hx hb dX1_tally_88 (by decide) ?_
    have sp := cu_sp.all (W0 := (cu_cw C a (nI N) mn K P)) (W1 := (cu_cw C a (nI N) mn K P)) rfl
    refine cu_callI (va_runV (As := [.ref (a 1), .int 9]) (rest := []) ⟨hx, hb, hml, hown, hts⟩ ((m_X1_sumOf l D C a N hN mn K P 9) H0.size) (cwV 2 hts gX1_tally_X1_sumOf rfl rfl rfl (by decide +kernel) ⟨Nat.le_of_ble_eq_true rfl, Nat.le_of_ble_eq_true rfl⟩) (cu_preV (ci := 1) sp hG hP hD rfl rfl) rfl rfl hl.1 rfl (lv_room (Nat.le_of_ble_eq_true rfl)) dX1_tally_90 ⟨Nat.le_of_ble_eq_true rfl, Nat.le_of_ble_eq_true rfl⟩) sp hP hD hS hA (fun H locs hP hD hS => ?_)
    have hP : va_P D vwCl (cu_cw C a (nI N) mn K P) H := hP
    have hD : va_D A (cu_cw C a (nI N) mn K P) := hD
    exact fin _ _ _ _ _ rfl (by simp only [k_tally, if_neg s_0, if_neg s_1, if_neg s_2, if_neg s_3, if_neg s_4, reduceIte]) hP hS dX1_tally_93
  by_cases s_6 : v1 = 6
  · subst s_6
    refine lv_tableIn (off := 93) (tgt := 94) hx hb dX1_tally_1 (by decide) (by decide) (by decide) (by decide) ?_
    refine lv_aload_n hx hb dX1_tally_94 rfl (lv_at hl 0 rfl) ?_
    have sp := cu_sp.all (W0 := (cu_cw C a (nI N) mn K P)) (W1 := (cu_cw C a (nI N) mn K P)) rfl
    refine cu_callI (va_runV (As := []) (rest := []) ⟨hx, hb, hml, hown, hts⟩ ((m_X1_trueClocks l D C a N hN mn K P ) H0.size) (cwV 0 hts gX1_tally_X1_trueClocks rfl rfl rfl (by decide +kernel) ⟨Nat.le_of_ble_eq_true rfl, Nat.le_of_ble_eq_true rfl⟩) (cu_preV (ci := 1) sp hG hP hD rfl rfl) rfl rfl hl.1 rfl (lv_room (Nat.le_of_ble_eq_true rfl)) dX1_tally_95 ⟨Nat.le_of_ble_eq_true rfl, Nat.le_of_ble_eq_true rfl⟩) sp hP hD hS hA (fun H locs hP hD hS => ?_)
    have hP : va_P D vwCl (cu_cw C a (nI N) mn K P) H := hP
    have hD : va_D A (cu_cw C a (nI N) mn K P) := hD
    exact fin _ _ _ _ _ rfl (by simp only [k_tally, if_neg s_0, if_neg s_1, if_neg s_2, if_neg s_3, if_neg s_4, if_neg s_5, reduceIte]) hP hS dX1_tally_98
  refine lv_tableOut (tgt := 99) hx hb dX1_tally_1 (by have q_0 := cu_ne s_0 0 (by decide); have q_1 := cu_ne s_1 1 (by decide); have q_2 := cu_ne s_2 2 (by decide); have q_3 := cu_ne s_3 3 (by decide); have q_4 := cu_ne s_4 4 (by decide); have q_5 := cu_ne s_5 5 (by decide); have q_6 := cu_ne s_6 6 (by decide); omega) (by decide) ?_
  refine lv_aload_n hx hb dX1_tally_99 rfl (lv_at hl 0 rfl) ?_
  refine lv_aload_n hx hb dX1_tally_100 rfl (lv_at hl 0 rfl) ?_
  refine va_get (D := D) (ci := 1) (v := .ref (a 1)) (C := RX1) (T := TX1) (N := 4) hx hb hts hiX1 hown hK hP 0 rfl rfl 0 (by decide) (hts (.fieldLink RX1 11 "CuckooShop" "clocks" "[LCuckooShop$Clock;") (by decide +kernel)) (fun _ h9 => h9) rfl dX1_tally_101 ?_
  refine lv_aload_n hx hb dX1_tally_104 rfl (lv_at hl 0 rfl) ?_
  refine va_get (D := D) (ci := 1) (v := .int mn) (C := RX1) (T := TX1) (N := 4) hx hb hts hiX1 hown hK hP 0 rfl rfl 3 (by decide) (hts (.fieldLink RX1 23 "CuckooShop" "minute" "I") (by decide +kernel)) (fun _ h9 => h9) rfl dX1_tally_105 ?_
  have sp := cu_sp.all (W0 := (cu_cw C a (nI N) mn K P)) (W1 := (cu_cw C a (nI N) mn K P)) rfl
  refine cu_callI (va_runV (As := [.ref (a 1), .int mn]) (rest := []) ⟨hx, hb, hml, hown, hts⟩ ((m_X1_offOfAll l D C a N hN mn K P mn) H0.size) (cwV 2 hts gX1_tally_X1_offOfAll rfl rfl rfl (by decide +kernel) ⟨Nat.le_of_ble_eq_true rfl, Nat.le_of_ble_eq_true rfl⟩) (cu_preV (ci := 1) sp hG hP hD rfl rfl) rfl rfl hl.1 rfl (lv_room (Nat.le_of_ble_eq_true rfl)) dX1_tally_108 ⟨Nat.le_of_ble_eq_true rfl, Nat.le_of_ble_eq_true rfl⟩) sp hP hD hS hA (fun H locs hP hD hS => ?_)
  have hP : va_P D vwCl (cu_cw C a (nI N) mn K P) H := hP
  have hD : va_D A (cu_cw C a (nI N) mn K P) := hD
  exact fin _ _ _ _ _ rfl (by simp only [k_tally, if_neg s_0, if_neg s_1, if_neg s_2, if_neg s_3, if_neg s_4, if_neg s_5, if_neg s_6, reduceIte]) hP hS dX1_tally_111
