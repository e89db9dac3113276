set_option maxHeartbeats 4000000 in
set_option maxRecDepth 100000 in
theorem m_X0_putHands (l : Launch) (D : va_G) (C : Nat → ClassId) (h0 : Nat) (K : Nat → Int32) (v1 : Int32) : cu_V l D C yX0_putHands wsX0_putHands { frames := 0, cells := 0, slots := 0, locals := 0 } [.ref h0, .int v1] (cu_wc h0 K) (cu_wc h0 (upd (upd K 0 v1) 1 0)) 0 0 := by
  refine cu_openV (cc := cX0_putHands) (maxL := 2) (own := RX0) (by decide) rfl rfl (Nat.le_of_ble_eq_true rfl) ?_
  intro p e s m args below meth c A Z H0 ls e0 hx hb hml hts hown hnm hG hP hD hS hA hl fin
  have hK := hG.1
  have hl : lv_has ls 2 [(0, .ref h0), (1, .int v1)] := hl
  have hiX0 : ∀ w ∈ wsX00, w ∈ wsX0_putHands := by decide +kernel
  refine lv_aload_n hx hb dX0_putHands_0 rfl (lv_at hl 0 rfl) ?_
  refine lv_iload_n hx hb dX0_putHands_1 rfl (lv_at hl 1 rfl) ?_
  refine va_put (D := D) (ci := 0) (v := .int v1) (ty := .int) (C := RX0) (T := TX0) (N := 14) hx hb hts hiX0 tyX0 tyX0_ok nmX0 hown hK hP hD hS 0 rfl rfl 7 (by decide) (hts (.fieldLink RX0 34 "CuckooShop$Clock" "shown" "I") (by decide +kernel)) (fun _ h9 => h9) rfl (by decide +kernel) rfl rfl (Nat.le_of_ble_eq_true rfl) dX0_putHands_2 (fun H locs hP hD hS => ?_)
  have hP : va_P D vwCl (cu_wc h0 (upd K 0 v1)) H := hP
  have hD : va_D A (cu_wc h0 (upd K 0 v1)) := hD
  refine lv_aload_n hx hb dX0_putHands_5 rfl (lv_at hl 0 rfl) ?_
  refine lv_iconst (v := 0) hx hb dX0_putHands_6 (by decide) ?_
  refine va_put (D := D) (ci := 0) (v := .int 0) (ty := .int) (C := RX0) (T := TX0) (N := 14) hx hb hts hiX0 tyX0 tyX0_ok nmX0 hown hK hP hD hS 0 rfl rfl 8 (by decide) (hts (.fieldLink RX0 37 "CuckooShop$Clock" "rest" "I") (by decide +kernel)) (fun _ h9 => h9) rfl (by decide +kernel) rfl rfl (Nat.le_of_ble_eq_true rfl) dX0_putHands_7 (fun H locs hP hD hS => ?_)
  have hP : va_P D vwCl (cu_wc h0 (upd (upd K 0 v1) 1 0)) H := hP
  have hD : va_D A (cu_wc h0 (upd (upd K 0 v1) 1 0)) := hD
  exact fin _ _ _ _ hP hS dX0_putHands_10

set_option maxHeartbeats 4000000 in
set_option maxRecDepth 100000 in
theorem m_X0_fitTrain (l : Launch) (D : va_G) (C : Nat → ClassId) (h0 : Nat) (K : Nat → Int32) (v1 : Int32) (v2 : Int32) (v3 : Int32) : cu_V l D C yX0_fitTrain wsX0_fitTrain { frames := 0, cells := 0, slots := 0, locals := 0 } [.ref h0, .int v1, .int v2, .int v3] (cu_wc h0 K) (cu_wc h0 (upd (upd (upd K 9 v1) 10 v2) 11 v3)) 0 0 := by
  refine cu_openV (cc := cX0_fitTrain) (maxL := 4) (own := RX0) (by decide) rfl rfl (Nat.le_of_ble_eq_true rfl) ?_
  intro p e s m args below meth c A Z H0 ls e0 hx hb hml hts hown hnm hG hP hD hS hA hl fin
  have hK := hG.1
  have hl : lv_has ls 4 [(0, .ref h0), (1, .int v1), (2, .int v2), (3, .int v3)] := hl
  have hiX0 : ∀ w ∈ wsX00, w ∈ wsX0_fitTrain := by decide +kernel
  refine lv_aload_n hx hb dX0_fitTrain_0 rfl (lv_at hl 0 rfl) ?_
  refine lv_iload_n hx hb dX0_fitTrain_1 rfl (lv_at hl 1 rfl) ?_
  refine va_put (D := D) (ci := 0) (v := .int v1) (ty := .int) (C := RX0) (T := TX0) (N := 14) hx hb hts hiX0 tyX0 tyX0_ok nmX0 hown hK hP hD hS 0 rfl rfl 0 (by decide) (hts (.fieldLink RX0 9 "CuckooShop$Clock" "gearA" "I") (by decide +kernel)) (fun _ h9 => h9) rfl (by decide +kernel) rfl rfl (Nat.le_of_ble_eq_true rfl) dX0_fitTrain_2 (fun H locs hP hD hS => ?_)
  have hP : va_P D vwCl (cu_wc h0 (upd K 9 v1)) H := hP
  have hD : va_D A (cu_wc h0 (upd K 9 v1)) := hD
  refine lv_aload_n hx hb dX0_fitTrain_5 rfl (lv_at hl 0 rfl) ?_
  refine lv_iload_n hx hb dX0_fitTrain_6 rfl (lv_at hl 2 rfl) ?_
  refine va_put (D := D) (ci := 0) (v := .int v2) (ty := .int) (C := RX0) (T := TX0) (N := 14) hx hb hts hiX0 tyX0 tyX0_ok nmX0 hown hK hP hD hS 0 rfl rfl 1 (by decide) (hts (.fieldLink RX0 15 "CuckooShop$Clock" "gearB" "I") (by decide +kernel)) (fun _ h9 => h9) rfl (by decide +kernel) rfl rfl (Nat.le_of_ble_eq_true rfl) dX0_fitTrain_7 (fun H locs hP hD hS => ?_)
  have hP : va_P D vwCl (cu_wc h0 (upd (upd K 9 v1) 10 v2)) H := hP
  have hD : va_D A (cu_wc h0 (upd (upd K 9 v1) 10 v2)) := hD
  refine lv_aload_n hx hb dX0_fitTrain_10 rfl (lv_at hl 0 rfl) ?_
  refine lv_iload_n hx hb dX0_fitTrain_11 rfl (lv_at hl 3 rfl) ?_
  refine va_put (D := D) (ci := 0) (v := .int v3) (ty := .int) (C := RX0) (T := TX0) (N := 14) hx hb hts hiX0 tyX0 tyX0_ok nmX0 hown hK hP hD hS 0 rfl rfl 2 (by decide) (hts (.fieldLink RX0 18 "CuckooShop$Clock" "swing" "I") (by decide +kernel)) (fun _ h9 => h9) rfl (by decide +kernel) rfl rfl (Nat.le_of_ble_eq_true rfl) dX0_fitTrain_12 (fun H locs hP hD hS => ?_)
  have hP : va_P D vwCl (cu_wc h0 (upd (upd (upd K 9 v1) 10 v2) 11 v3)) H := hP
  have hD : va_D A (cu_wc h0 (upd (upd (upd K 9 v1) 10 v2) 11 v3)) := hD
  exact fin _ _ _ _ hP hS dX0_fitTrain_15

set_option maxHeartbeats 4000000 in
set_option maxRecDepth 100000 in
theorem m_X0_drawUp (l : Launch) (D : va_G) (C : Nat → ClassId) (h0 : Nat) (K : Nat → Int32) : cu_I l D C yX0_drawUp wsX0_drawUp { frames := 0, cells := 0, slots := 0, locals := 0 } [.ref h0] (cu_wc h0 K) (cu_wc h0 (upd (upd K 2 600) 5 1)) (600 - K 2) 0 0 := by
  refine cu_openI (cc := cX0_drawUp) (maxL := 2) (ty := .int) (own := RX0) (by decide) rfl rfl (Nat.le_of_ble_eq_true rfl) ?_
  intro p e s m args below meth c A Z H0 ls e0 hx hb hml hts hown hnm hG hP hD hS hA hl fin
  have hK := hG.1
  have hl : lv_has ls 2 [(0, .ref h0)] := hl
  have hiX0 : ∀ w ∈ wsX00, w ∈ wsX0_drawUp := by decide +kernel
  refine lv_sipush (v := 600) hx hb dX0_drawUp_0 (by decide) ?_
  refine lv_aload_n hx hb dX0_drawUp_3 rfl (lv_at hl 0 rfl) ?_
  refine va_get (D := D) (ci := 0) (v := .int (K 2)) (C := RX0) (T := TX0) (N := 14) hx hb hts hiX0 hown hK hP 0 rfl rfl 3 (by decide) (hts (.fieldLink RX0 21 "CuckooShop$Clock" "chain" "I") (by decide +kernel)) (fun _ h9 => h9) rfl dX0_drawUp_4 ?_
  refine lv_isub hx hb dX0_drawUp_7 ?_
  refine lv_istore_n (lv' := [(1, .int (600 - (K 2))), (0, .ref h0)]) hx hb dX0_drawUp_8 rfl hl (by decide) rfl (fun ls hl => ?_)
  refine lv_aload_n hx hb dX0_drawUp_9 rfl (lv_at hl 1 rfl) ?_
  refine lv_sipush (v := 600) hx hb dX0_drawUp_10 (by decide) ?_
  refine va_put (D := D) (ci := 0) (v := .int 600) (ty := .int) (C := RX0) (T := TX0) (N := 14) hx hb hts hiX0 tyX0 tyX0_ok nmX0 hown hK hP hD hS 0 rfl rfl 3 (by decide) (hts (.fieldLink RX0 21 "CuckooShop$Clock" "chain" "I") (by decide +kernel)) (fun _ h9 => h9) rfl (by decide +kernel) rfl rfl (Nat.le_of_ble_eq_true rfl) dX0_drawUp_13 (fun H locs hP hD hS => ?_)
  have hP : va_P D vwCl (cu_wc h0 (upd K 2 600)) H := hP
  have hD : va_D A (cu_wc h0 (upd K 2 600)) := hD
  refine lv_aload_n hx hb dX0_drawUp_16 rfl (lv_at hl 1 rfl) ?_
  refine lv_iconst (v := 1) hx hb dX0_drawUp_17 (by decide) ?_
  refine va_put (D := D) (ci := 0) (v := .int 1) (ty := .boolean) (C := RX0) (T := TX0) (N := 14) hx hb hts hiX0 tyX0 tyX0_ok nmX0 hown hK hP hD hS 0 rfl rfl 6 (by decide) (hts (.fieldLink RX0 30 "CuckooShop$Clock" "goes" "Z") (by decide +kernel)) (fun _ h9 => h9) rfl (by decide +kernel) rfl rfl (Nat.le_of_ble_eq_true rfl) dX0_drawUp_18 (fun H locs hP hD hS => ?_)
  have hP : va_P D vwCl (cu_wc h0 (upd (upd K 2 600) 5 1)) H := hP
  have hD : va_D A (cu_wc h0 (upd (upd K 2 600) 5 1)) := hD
  refine lv_iload_n hx hb dX0_drawUp_21 rfl (lv_at hl 0 rfl) ?_
  exact fin _ _ _ _ _ rfl (by rfl) hP hS dX0_drawUp_22

set_option maxHeartbeats 4000000 in
set_option maxRecDepth 100000 in
theorem m_X0_fillOil (l : Launch) (D : va_G) (C : Nat → ClassId) (h0 : Nat) (K : Nat → Int32) : cu_I l D C yX0_fillOil wsX0_fillOil { frames := 0, cells := 0, slots := 0, locals := 0 } [.ref h0] (cu_wc h0 K) (cu_wc h0 (upd K 3 100)) (100 - K 3) 0 0 := by
  refine cu_openI (cc := cX0_fillOil) (maxL := 2) (ty := .int) (own := RX0) (by decide) rfl rfl (Nat.le_of_ble_eq_true rfl) ?_
  intro p e s m args below meth c A Z H0 ls e0 hx hb hml hts hown hnm hG hP hD hS hA hl fin
  have hK := hG.1
  have hl : lv_has ls 2 [(0, .ref h0)] := hl
  have hiX0 : ∀ w ∈ wsX00, w ∈ wsX0_fillOil := by decide +kernel
  refine lv_bipush (v := 100) hx hb dX0_fillOil_0 (by decide) ?_
  refine lv_aload_n hx hb dX0_fillOil_2 rfl (lv_at hl 0 rfl) ?_
  refine va_get (D := D) (ci := 0) (v := .int (K 3)) (C := RX0) (T := TX0) (N := 14) hx hb hts hiX0 hown hK hP 0 rfl rfl 4 (by decide) (hts (.fieldLink RX0 24 "CuckooShop$Clock" "oil" "I") (by decide +kernel)) (fun _ h9 => h9) rfl dX0_fillOil_3 ?_
  refine lv_isub hx hb dX0_fillOil_6 ?_
  refine lv_istore_n (lv' := [(1, .int (100 - (K 3))), (0, .ref h0)]) hx hb dX0_fillOil_7 rfl hl (by decide) rfl (fun ls hl => ?_)
  refine lv_aload_n hx hb dX0_fillOil_8 rfl (lv_at hl 1 rfl) ?_
  refine lv_bipush (v := 100) hx hb dX0_fillOil_9 (by decide) ?_
  refine va_put (D := D) (ci := 0) (v := .int 100) (ty := .int) (C := RX0) (T := TX0) (N := 14) hx hb hts hiX0 tyX0 tyX0_ok nmX0 hown hK hP hD hS 0 rfl rfl 4 (by decide) (hts (.fieldLink RX0 24 "CuckooShop$Clock" "oil" "I") (by decide +kernel)) (fun _ h9 => h9) rfl (by decide +kernel) rfl rfl (Nat.le_of_ble_eq_true rfl) dX0_fillOil_11 (fun H locs hP hD hS => ?_)
  have hP : va_P D vwCl (cu_wc h0 (upd K 3 100)) H := hP
  have hD : va_D A (cu_wc h0 (upd K 3 100)) := hD
  refine lv_iload_n hx hb dX0_fillOil_14 rfl (lv_at hl 0 rfl) ?_
  exact fin _ _ _ _ _ rfl (by rfl) hP hS dX0_fillOil_15

set_option maxHeartbeats 4000000 in
set_option maxRecDepth 100000 in
theorem m_X0_patchBellows (l : Launch) (D : va_G) (C : Nat → ClassId) (h0 : Nat) (K : Nat → Int32) : cu_I l D C yX0_patchBellows wsX0_patchBellows { frames := 0, cells := 0, slots := 0, locals := 0 } [.ref h0] (cu_wc h0 K) (cu_wc h0 (upd K 4 60)) (60 - K 4) 0 0 := by
  refine cu_openI (cc := cX0_patchBellows) (maxL := 2) (ty := .int) (own := RX0) (by decide) rfl rfl (Nat.le_of_ble_eq_true rfl) ?_
  intro p e s m args below meth c A Z H0 ls e0 hx hb hml hts hown hnm hG hP hD hS hA hl fin
  have hK := hG.1
  have hl : lv_has ls 2 [(0, .ref h0)] := hl
  have hiX0 : ∀ w ∈ wsX00, w ∈ wsX0_patchBellows := by decide +kernel
  refine lv_bipush (v := 60) hx hb dX0_patchBellows_0 (by decide) ?_
  refine lv_aload_n hx hb dX0_patchBellows_2 rfl (lv_at hl 0 rfl) ?_
  refine va_get (D := D) (ci := 0) (v := .int (K 4)) (C := RX0) (T := TX0) (N := 14) hx hb hts hiX0 hown hK hP 0 rfl rfl 5 (by decide) (hts (.fieldLink RX0 27 "CuckooShop$Clock" "bellows" "I") (by decide +kernel)) (fun _ h9 => h9) rfl dX0_patchBellows_3 ?_
  refine lv_isub hx hb dX0_patchBellows_6 ?_
  refine lv_istore_n (lv' := [(1, .int (60 - (K 4))), (0, .ref h0)]) hx hb dX0_patchBellows_7 rfl hl (by decide) rfl (fun ls hl => ?_)
  refine lv_aload_n hx hb dX0_patchBellows_8 rfl (lv_at hl 1 rfl) ?_
  refine lv_bipush (v := 60) hx hb dX0_patchBellows_9 (by decide) ?_
  refine va_put (D := D) (ci := 0) (v := .int 60) (ty := .int) (C := RX0) (T := TX0) (N := 14) hx hb hts hiX0 tyX0 tyX0_ok nmX0 hown hK hP hD hS 0 rfl rfl 5 (by decide) (hts (.fieldLink RX0 27 "CuckooShop$Clock" "bellows" "I") (by decide +kernel)) (fun _ h9 => h9) rfl (by decide +kernel) rfl rfl (Nat.le_of_ble_eq_true rfl) dX0_patchBellows_11 (fun H locs hP hD hS => ?_)
  have hP : va_P D vwCl (cu_wc h0 (upd K 4 60)) H := hP
  have hD : va_D A (cu_wc h0 (upd K 4 60)) := hD
  refine lv_iload_n hx hb dX0_patchBellows_14 rfl (lv_at hl 0 rfl) ?_
  exact fin _ _ _ _ _ rfl (by rfl) hP hS dX0_patchBellows_15

set_option maxHeartbeats 4000000 in
set_option maxRecDepth 100000 in
theorem m_X0_nudge (l : Launch) (D : va_G) (C : Nat → ClassId) (h0 : Nat) (K : Nat → Int32) : cu_I l D C yX0_nudge wsX0_nudge { frames := 0, cells := 0, slots := 0, locals := 0 } [.ref h0] (cu_wc h0 K) (cu_wc h0 (upd K 5 (k_nudge K))) (k_nudge K) 0 0 := by
  refine cu_openI (cc := cX0_nudge) (maxL := 1) (ty := .int) (own := RX0) (by decide) rfl rfl (Nat.le_of_ble_eq_true rfl) ?_
  intro p e s m args below meth c A Z H0 ls e0 hx hb hml hts hown hnm hG hP hD hS hA hl fin
  have hK := hG.1
  have hl : lv_has ls 1 [(0, .ref h0)] := hl
  have hiX0 : ∀ w ∈ wsX00, w ∈ wsX0_nudge := by decide +kernel
  refine lv_aload_n hx hb dX0_nudge_0 rfl (lv_at hl 0 rfl) ?_
  refine lv_aload_n hx hb dX0_nudge_1 rfl (lv_at hl 0 rfl) ?_
  refine va_get (D := D) (ci := 0) (v := .int (K 5)) (C := RX0) (T := TX0) (N := 14) hx hb hts hiX0 hown hK hP 0 rfl rfl 6 (by decide) (hts (.fieldLink RX0 30 "CuckooShop$Clock" "goes" "Z") (by decide +kernel)) (fun _ h9 => h9) rfl dX0_nudge_2 ?_
  refine lv_if_ne (tgt := 19) hx hb dX0_nudge_5 (by decide) (fun c_5 => ?_) (fun c_5 => ?_)
  · refine lv_iconst (v := 0) hx hb dX0_nudge_19 (by decide) ?_
    refine va_put (D := D) (ci := 0) (v := .int 0) (ty := .boolean) (C := RX0) (T := TX0) (N := 14) hx hb hts hiX0 tyX0 tyX0_ok nmX0 hown hK hP hD hS 0 rfl rfl 6 (by decide) (hts (.fieldLink RX0 30 "CuckooShop$Clock" "goes" "Z") (by decide +kernel)) (fun _ h9 => h9) rfl (by decide +kernel) rfl rfl (Nat.le_of_ble_eq_true rfl) dX0_nudge_20 (fun H locs hP hD hS => ?_)
    have hP : va_P D vwCl (cu_wc h0 (upd K 5 0)) H := hP
    have hD : va_D A (cu_wc h0 (upd K 5 0)) := hD
    refine lv_aload_n hx hb dX0_nudge_23 rfl (lv_at hl 0 rfl) ?_
    refine va_get (D := D) (ci := 0) (v := .int 0) (C := RX0) (T := TX0) (N := 14) hx hb hts hiX0 hown hK hP 0 rfl rfl 6 (by decide) (hts (.fieldLink RX0 30 "CuckooShop$Clock" "goes" "Z") (by decide +kernel)) (fun _ h9 => h9) rfl dX0_nudge_24 ?_
    refine lv_if_eq (tgt := 34) hx hb dX0_nudge_27 (by decide) (fun c_27 => ?_) (fun c_27 => absurd c_27 (by decide))
    refine lv_iconst (v := 0) hx hb dX0_nudge_34 (by decide) ?_
    exact fin _ _ _ _ _ rfl (by simp only [k_nudge, if_neg c_5, reduceIte]) (by simpa only [k_nudge, if_neg c_5, reduceIte] using hP) hS dX0_nudge_35
  · refine lv_aload_n hx hb dX0_nudge_8 rfl (lv_at hl 0 rfl) ?_
    refine va_get (D := D) (ci := 0) (v := .int (K 2)) (C := RX0) (T := TX0) (N := 14) hx hb hts hiX0 hown hK hP 0 rfl rfl 3 (by decide) (hts (.fieldLink RX0 21 "CuckooShop$Clock" "chain" "I") (by decide +kernel)) (fun _ h9 => h9) rfl dX0_nudge_9 ?_
    refine lv_if_eq (tgt := 19) hx hb dX0_nudge_12 (by decide) (fun c_12 => ?_) (fun c_12 => ?_)
    · refine lv_iconst (v := 0) hx hb dX0_nudge_19 (by decide) ?_
      refine va_put (D := D) (ci := 0) (v := .int 0) (ty := .boolean) (C := RX0) (T := TX0) (N := 14) hx hb hts hiX0 tyX0 tyX0_ok nmX0 hown hK hP hD hS 0 rfl rfl 6 (by decide) (hts (.fieldLink RX0 30 "CuckooShop$Clock" "goes" "Z") (by decide +kernel)) (fun _ h9 => h9) rfl (by decide +kernel) rfl rfl (Nat.le_of_ble_eq_true rfl) dX0_nudge_20 (fun H locs hP hD hS => ?_)
      have hP : va_P D vwCl (cu_wc h0 (upd K 5 0)) H := hP
      have hD : va_D A (cu_wc h0 (upd K 5 0)) := hD
      refine lv_aload_n hx hb dX0_nudge_23 rfl (lv_at hl 0 rfl) ?_
      refine va_get (D := D) (ci := 0) (v := .int 0) (C := RX0) (T := TX0) (N := 14) hx hb hts hiX0 hown hK hP 0 rfl rfl 6 (by decide) (hts (.fieldLink RX0 30 "CuckooShop$Clock" "goes" "Z") (by decide +kernel)) (fun _ h9 => h9) rfl dX0_nudge_24 ?_
      refine lv_if_eq (tgt := 34) hx hb dX0_nudge_27 (by decide) (fun c_27 => ?_) (fun c_27 => absurd c_27 (by decide))
      refine lv_iconst (v := 0) hx hb dX0_nudge_34 (by decide) ?_
      exact fin _ _ _ _ _ rfl (by simp only [k_nudge, if_pos c_5, if_pos c_12, reduceIte]) (by simpa only [k_nudge, if_pos c_5, if_pos c_12, reduceIte] using hP) hS dX0_nudge_35
    · refine lv_iconst (v := 1) hx hb dX0_nudge_15 (by decide) ?_
      refine lv_goto (tgt := 20) hx hb dX0_nudge_16 (by decide) ?_
      refine va_put (D := D) (ci := 0) (v := .int 1) (ty := .boolean) (C := RX0) (T := TX0) (N := 14) hx hb hts hiX0 tyX0 tyX0_ok nmX0 hown hK hP hD hS 0 rfl rfl 6 (by decide) (hts (.fieldLink RX0 30 "CuckooShop$Clock" "goes" "Z") (by decide +kernel)) (fun _ h9 => h9) rfl (by decide +kernel) rfl rfl (Nat.le_of_ble_eq_true rfl) dX0_nudge_20 (fun H locs hP hD hS => ?_)
      have hP : va_P D vwCl (cu_wc h0 (upd K 5 1)) H := hP
      have hD : va_D A (cu_wc h0 (upd K 5 1)) := hD
      refine lv_aload_n hx hb dX0_nudge_23 rfl (lv_at hl 0 rfl) ?_
      refine va_get (D := D) (ci := 0) (v := .int 1) (C := RX0) (T := TX0) (N := 14) hx hb hts hiX0 hown hK hP 0 rfl rfl 6 (by decide) (hts (.fieldLink RX0 30 "CuckooShop$Clock" "goes" "Z") (by decide +kernel)) (fun _ h9 => h9) rfl dX0_nudge_24 ?_
      refine lv_if_eq (tgt := 34) hx hb dX0_nudge_27 (by decide) (fun c_27 => absurd c_27 (by decide)) (fun c_27 => ?_)
      refine lv_iconst (v := 1) hx hb dX0_nudge_30 (by decide) ?_
      refine lv_goto (tgt := 35) hx hb dX0_nudge_31 (by decide) ?_
      exact fin _ _ _ _ _ rfl (by simp only [k_nudge, if_pos c_5, if_neg c_12, reduceIte]) (by simpa only [k_nudge, if_pos c_5, if_neg c_12, reduceIte] using hP) hS dX0_nudge_35

set_option maxHeartbeats 4000000 in
set_option maxRecDepth 100000 in
theorem m_X0_silence (l : Launch) (D : va_G) (C : Nat → ClassId) (h0 : Nat) (K : Nat → Int32) (v1 : Int32) (v2 : Int32) : cu_I l D C yX0_silence wsX0_silence { frames := 0, cells := 0, slots := 0, locals := 0 } [.ref h0, .int v1, .int v2] (cu_wc h0 K) (cu_wc h0 (upd (upd K 12 v1) 13 v2)) (K 12) 0 0 := by
  refine cu_openI (cc := cX0_silence) (maxL := 4) (ty := .int) (own := RX0) (by decide) rfl rfl (Nat.le_of_ble_eq_true rfl) ?_
  intro p e s m args below meth c A Z H0 ls e0 hx hb hml hts hown hnm hG hP hD hS hA hl fin
  have hK := hG.1
  have hl : lv_has ls 4 [(0, .ref h0), (1, .int v1), (2, .int v2)] := hl
  have hiX0 : ∀ w ∈ wsX00, w ∈ wsX0_silence := by decide +kernel
  refine lv_aload_n hx hb dX0_silence_0 rfl (lv_at hl 0 rfl) ?_
  refine va_get (D := D) (ci := 0) (v := .int (K 12)) (C := RX0) (T := TX0) (N := 14) hx hb hts hiX0 hown hK hP 0 rfl rfl 9 (by decide) (hts (.fieldLink RX0 40 "CuckooShop$Clock" "shutFrom" "I") (by decide +kernel)) (fun _ h9 => h9) rfl dX0_silence_1 ?_
  refine lv_istore_n (lv' := [(3, .int (K 12)), (0, .ref h0), (1, .int v1), (2, .int v2)]) hx hb dX0_silence_4 rfl hl (by decide) rfl (fun ls hl => ?_)
  refine lv_aload_n hx hb dX0_silence_5 rfl (lv_at hl 1 rfl) ?_
  refine lv_iload_n hx hb dX0_silence_6 rfl (lv_at hl 2 rfl) ?_
  refine va_put (D := D) (ci := 0) (v := .int v1) (ty := .int) (C := RX0) (T := TX0) (N := 14) hx hb hts hiX0 tyX0 tyX0_ok nmX0 hown hK hP hD hS 0 rfl rfl 9 (by decide) (hts (.fieldLink RX0 40 "CuckooShop$Clock" "shutFrom" "I") (by decide +kernel)) (fun _ h9 => h9) rfl (by decide +kernel) rfl rfl (Nat.le_of_ble_eq_true rfl) dX0_silence_7 (fun H locs hP hD hS => ?_)
  have hP : va_P D vwCl (cu_wc h0 (upd K 12 v1)) H := hP
  have hD : va_D A (cu_wc h0 (upd K 12 v1)) := hD
  refine lv_aload_n hx hb dX0_silence_10 rfl (lv_at hl 1 rfl) ?_
  refine lv_iload_n hx hb dX0_silence_11 rfl (lv_at hl 3 rfl) ?_
  refine va_put (D := D) (ci := 0) (v := .int v2) (ty := .int) (C := RX0) (T := TX0) (N := 14) hx hb hts hiX0 tyX0 tyX0_ok nmX0 hown hK hP hD hS 0 rfl rfl 10 (by decide) (hts (.fieldLink RX0 43 "CuckooShop$Clock" "shutTill" "I") (by decide +kernel)) (fun _ h9 => h9) rfl (by decide +kernel) rfl rfl (Nat.le_of_ble_eq_true rfl) dX0_silence_12 (fun H locs hP hD hS => ?_)
  have hP : va_P D vwCl (cu_wc h0 (upd (upd K 12 v1) 13 v2)) H := hP
  have hD : va_D A (cu_wc h0 (upd (upd K 12 v1) 13 v2)) := hD
  refine lv_iload_n hx hb dX0_silence_15 rfl (lv_at hl 0 rfl) ?_
  exact fin _ _ _ _ _ rfl (by rfl) hP hS dX0_silence_16

set_option maxHeartbeats 4000000 in
set_option maxRecDepth 100000 in
theorem m_X0_advanceWith (l : Launch) (D : va_G) (C : Nat → ClassId) (h0 : Nat) (K : Nat → Int32) (v1 : Int32) (v2 : Int32) : cu_I l D C yX0_advanceWith wsX0_advanceWith { frames := 0, cells := 0, slots := 0, locals := 0 } [.ref h0, .int v1, .int v2] (cu_wc h0 K) (cu_wc h0 K) (k_advW K v1 v2) 0 0 := by
  refine cu_openI (cc := cX0_advanceWith) (maxL := 4) (ty := .int) (own := RX0) (by decide) rfl rfl (Nat.le_of_ble_eq_true rfl) ?_
  intro p e s m args below meth c A Z H0 ls e0 hx hb hml hts hown hnm hG hP hD hS hA hl fin
  have hK := hG.1
  have hl : lv_has ls 4 [(0, .ref h0), (1, .int v1), (2, .int v2)] := hl
  have hiX0 : ∀ w ∈ wsX00, w ∈ wsX0_advanceWith := by decide +kernel
  refine lv_iload_n hx hb dX0_advanceWith_0 rfl (lv_at hl 2 rfl) ?_
  refine lv_if_ne (tgt := 6) hx hb dX0_advanceWith_1 (by decide) (fun c_1 => ?_) (fun c_1 => ?_)
  · refine lv_sipush (v := 900) hx hb dX0_advanceWith_6 (by decide) ?_
    refine lv_iload_n hx hb dX0_advanceWith_9 rfl (lv_at hl 1 rfl) ?_
    refine lv_imul hx hb dX0_advanceWith_10 ?_
    refine lv_iload_n hx hb dX0_advanceWith_11 rfl (lv_at hl 2 rfl) ?_
    refine lv_idiv hx hb dX0_advanceWith_12 c_1 ?_
    refine lv_aload_n hx hb dX0_advanceWith_13 rfl (lv_at hl 0 rfl) ?_
    refine va_get (D := D) (ci := 0) (v := .int (K 11)) (C := RX0) (T := TX0) (N := 14) hx hb hts hiX0 hown hK hP 0 rfl rfl 2 (by decide) (hts (.fieldLink RX0 18 "CuckooShop$Clock" "swing" "I") (by decide +kernel)) (fun _ h9 => h9) rfl dX0_advanceWith_14 ?_
    refine lv_iadd hx hb dX0_advanceWith_17 ?_
    refine lv_istore_n (lv' := [(3, .int (((900 * v1) / v2) + (K 11))), (0, .ref h0), (1, .int v1), (2, .int v2)]) hx hb dX0_advanceWith_18 rfl hl (by decide) rfl (fun ls hl => ?_)
    refine lv_aload_n hx hb dX0_advanceWith_19 rfl (lv_at hl 1 rfl) ?_
    refine va_get (D := D) (ci := 0) (v := .int (K 3)) (C := RX0) (T := TX0) (N := 14) hx hb hts hiX0 hown hK hP 0 rfl rfl 4 (by decide) (hts (.fieldLink RX0 24 "CuckooShop$Clock" "oil" "I") (by decide +kernel)) (fun _ h9 => h9) rfl dX0_advanceWith_20 ?_
    refine lv_bipush (v := 20) hx hb dX0_advanceWith_23 (by decide) ?_
    refine lv_icmp_ge (tgt := 37) hx hb dX0_advanceWith_25 (by decide) (fun c_25 => ?_) (fun c_25 => ?_)
    · refine lv_iload_n hx hb dX0_advanceWith_37 rfl (lv_at hl 0 rfl) ?_
      exact fin _ _ _ _ _ rfl (by simp only [k_advW, if_neg c_1, if_pos c_25, reduceIte]) hP hS dX0_advanceWith_38
    · refine lv_iload_n hx hb dX0_advanceWith_28 rfl (lv_at hl 0 rfl) ?_
      refine lv_iload_n hx hb dX0_advanceWith_29 rfl (lv_at hl 0 rfl) ?_
      refine lv_bipush (v := 10) hx hb dX0_advanceWith_30 (by decide) ?_
      refine lv_idiv hx hb dX0_advanceWith_32 (by decide) ?_
      refine lv_isub hx hb dX0_advanceWith_33 ?_
      refine lv_goto (tgt := 38) hx hb dX0_advanceWith_34 (by decide) ?_
      exact fin _ _ _ _ _ rfl (by simp only [k_advW, if_neg c_1, if_neg c_25, reduceIte]) hP hS dX0_advanceWith_38
  · refine lv_iconst (v := 0) hx hb dX0_advanceWith_4 (by decide) ?_
    exact fin _ _ _ _ _ rfl (by simp only [k_advW, if_pos c_1, reduceIte]) hP hS dX0_advanceWith_5

set_option maxHeartbeats 4000000 in
set_option maxRecDepth 100000 in
theorem m_X0_advance (l : Launch) (D : va_G) (C : Nat → ClassId) (h0 : Nat) (K : Nat → Int32) : cu_I l D C yX0_advance wsX0_advance { frames := 1, cells := 0, slots := 0, locals := 23 } [.ref h0] (cu_wc h0 K) (cu_wc h0 K) (k_adv K) 0 0 := by
  refine cu_openI (cc := cX0_advance) (maxL := 1) (ty := .int) (own := RX0) (by decide) rfl rfl (Nat.le_of_ble_eq_true rfl) ?_
  intro p e s m args below meth c A Z H0 ls e0 hx hb hml hts hown hnm hG hP hD hS hA hl fin
  have hK := hG.1
  have hl : lv_has ls 1 [(0, .ref h0)] := hl
  have hiX0 : ∀ w ∈ wsX00, w ∈ wsX0_advance := by decide +kernel
  refine lv_aload_n hx hb dX0_advance_0 rfl (lv_at hl 0 rfl) ?_
  refine lv_aload_n hx hb dX0_advance_1 rfl (lv_at hl 0 rfl) ?_
  refine va_get (D := D) (ci := 0) (v := .int (K 9)) (C := RX0) (T := TX0) (N := 14) hx hb hts hiX0 hown hK hP 0 rfl rfl 0 (by decide) (hts (.fieldLink RX0 9 "CuckooShop$Clock" "gearA" "I") (by decide +kernel)) (fun _ h9 => h9) rfl dX0_advance_2 ?_
  refine lv_aload_n hx hb dX0_advance_5 rfl (lv_at hl 0 rfl) ?_
  refine va_get (D := D) (ci := 0) (v := .int (K 10)) (C := RX0) (T := TX0) (N := 14) hx hb hts hiX0 hown hK hP 0 rfl rfl 1 (by decide) (hts (.fieldLink RX0 15 "CuckooShop$Clock" "gearB" "I") (by decide +kernel)) (fun _ h9 => h9) rfl dX0_advance_6 ?_
  have sp := cu_sp.all (W0 := (cu_wc h0 K)) (W1 := (cu_wc h0 K)) rfl
  refine cu_callI (va_runV (As := [.int (K 9), .int (K 10)]) (rest := []) ⟨hx, hb, hml, hown, hts⟩ ((m_X0_advanceWith l D C h0 K (K 9) (K 10)) H0.size) (cwV 2 hts gX0_advance_X0_advanceWith rfl rfl rfl (by decide +kernel) ⟨Nat.le_of_ble_eq_true rfl, Nat.le_of_ble_eq_true rfl⟩) (cu_preV (ci := 0) sp hG hP hD rfl rfl) rfl rfl hl.1 rfl (lv_room (Nat.le_of_ble_eq_true rfl)) dX0_advance_9 ⟨Nat.le_of_ble_eq_true rfl, Nat.le_of_ble_eq_true rfl⟩) sp hP hD hS hA (fun H locs hP hD hS => ?_)
  have hP : va_P D vwCl (cu_wc h0 K) H := hP
  have hD : va_D A (cu_wc h0 K) := hD
  exact fin _ _ _ _ _ rfl (by rfl) hP hS dX0_advance_12

set_option maxHeartbeats 4000000 in
set_option maxRecDepth 100000 in
theorem m_X0_isShutAt (l : Launch) (D : va_G) (C : Nat → ClassId) (h0 : Nat) (K : Nat → Int32) (v1 : Int32) : cu_I l D C yX0_isShutAt wsX0_isShutAt { frames := 0, cells := 0, slots := 0, locals := 0 } [.ref h0, .int v1] (cu_wc h0 K) (cu_wc h0 K) (k_shutAt K v1) 0 0 := by
  refine cu_openI (cc := cX0_isShutAt) (maxL := 2) (ty := .boolean) (own := RX0) (by decide) rfl rfl (Nat.le_of_ble_eq_true rfl) ?_
  intro p e s m args below meth c A Z H0 ls e0 hx hb hml hts hown hnm hG hP hD hS hA hl fin
  have hK := hG.1
  have hl : lv_has ls 2 [(0, .ref h0), (1, .int v1)] := hl
  have hiX0 : ∀ w ∈ wsX00, w ∈ wsX0_isShutAt := by decide +kernel
  refine lv_aload_n hx hb dX0_isShutAt_0 rfl (lv_at hl 0 rfl) ?_
  refine va_get (D := D) (ci := 0) (v := .int (K 12)) (C := RX0) (T := TX0) (N := 14) hx hb hts hiX0 hown hK hP 0 rfl rfl 9 (by decide) (hts (.fieldLink RX0 40 "CuckooShop$Clock" "shutFrom" "I") (by decide +kernel)) (fun _ h9 => h9) rfl dX0_isShutAt_1 ?_
  refine lv_iconst (v := -1) hx hb dX0_isShutAt_4 (by decide) ?_
  refine lv_icmp_ne (tgt := 10) hx hb dX0_isShutAt_5 (by decide) (fun c_5 => ?_) (fun c_5 => ?_)
  · refine lv_aload_n hx hb dX0_isShutAt_10 rfl (lv_at hl 0 rfl) ?_
    refine va_get (D := D) (ci := 0) (v := .int (K 12)) (C := RX0) (T := TX0) (N := 14) hx hb hts hiX0 hown hK hP 0 rfl rfl 9 (by decide) (hts (.fieldLink RX0 40 "CuckooShop$Clock" "shutFrom" "I") (by decide +kernel)) (fun _ h9 => h9) rfl dX0_isShutAt_11 ?_
    refine lv_aload_n hx hb dX0_isShutAt_14 rfl (lv_at hl 0 rfl) ?_
    refine va_get (D := D) (ci := 0) (v := .int (K 13)) (C := RX0) (T := TX0) (N := 14) hx hb hts hiX0 hown hK hP 0 rfl rfl 10 (by decide) (hts (.fieldLink RX0 43 "CuckooShop$Clock" "shutTill" "I") (by decide +kernel)) (fun _ h9 => h9) rfl dX0_isShutAt_15 ?_
    refine lv_icmp_ge (tgt := 43) hx hb dX0_isShutAt_18 (by decide) (fun c_18 => ?_) (fun c_18 => ?_)
    · refine lv_iload_n hx hb dX0_isShutAt_43 rfl (lv_at hl 1 rfl) ?_
      refine lv_aload_n hx hb dX0_isShutAt_44 rfl (lv_at hl 0 rfl) ?_
      refine va_get (D := D) (ci := 0) (v := .int (K 12)) (C := RX0) (T := TX0) (N := 14) hx hb hts hiX0 hown hK hP 0 rfl rfl 9 (by decide) (hts (.fieldLink RX0 40 "CuckooShop$Clock" "shutFrom" "I") (by decide +kernel)) (fun _ h9 => h9) rfl dX0_isShutAt_45 ?_
      refine lv_icmp_ge (tgt := 59) hx hb dX0_isShutAt_48 (by decide) (fun c_48 => ?_) (fun c_48 => ?_)
      · refine lv_iconst (v := 1) hx hb dX0_isShutAt_59 (by decide) ?_
        refine lv_goto (tgt := 64) hx hb dX0_isShutAt_60 (by decide) ?_
        exact fin _ _ _ _ _ (by decide) (by simp only [k_shutAt, if_neg c_5, if_pos c_18, if_pos c_48, reduceIte]) hP hS dX0_isShutAt_64
      · refine lv_iload_n hx hb dX0_isShutAt_51 rfl (lv_at hl 1 rfl) ?_
        refine lv_aload_n hx hb dX0_isShutAt_52 rfl (lv_at hl 0 rfl) ?_
        refine va_get (D := D) (ci := 0) (v := .int (K 13)) (C := RX0) (T := TX0) (N := 14) hx hb hts hiX0 hown hK hP 0 rfl rfl 10 (by decide) (hts (.fieldLink RX0 43 "CuckooShop$Clock" "shutTill" "I") (by decide +kernel)) (fun _ h9 => h9) rfl dX0_isShutAt_53 ?_
        refine lv_icmp_ge (tgt := 63) hx hb dX0_isShutAt_56 (by decide) (fun c_56 => ?_) (fun c_56 => ?_)
        · refine lv_iconst (v := 0) hx hb dX0_isShutAt_63 (by decide) ?_
          exact fin _ _ _ _ _ (by decide) (by simp only [k_shutAt, if_neg c_5, if_pos c_18, if_neg c_48, if_pos c_56, reduceIte]) hP hS dX0_isShutAt_64
        · refine lv_iconst (v := 1) hx hb dX0_isShutAt_59 (by decide) ?_
          refine lv_goto (tgt := 64) hx hb dX0_isShutAt_60 (by decide) ?_
          exact fin _ _ _ _ _ (by decide) (by simp only [k_shutAt, if_neg c_5, if_pos c_18, if_neg c_48, if_neg c_56, reduceIte]) hP hS dX0_isShutAt_64
    · refine lv_iload_n hx hb dX0_isShutAt_21 rfl (lv_at hl 1 rfl) ?_
      refine lv_aload_n hx hb dX0_isShutAt_22 rfl (lv_at hl 0 rfl) ?_
      refine va_get (D := D) (ci := 0) (v := .int (K 12)) (C := RX0) (T := TX0) (N := 14) hx hb hts hiX0 hown hK hP 0 rfl rfl 9 (by decide) (hts (.fieldLink RX0 40 "CuckooShop$Clock" "shutFrom" "I") (by decide +kernel)) (fun _ h9 => h9) rfl dX0_isShutAt_23 ?_
      refine lv_icmp_lt (tgt := 41) hx hb dX0_isShutAt_26 (by decide) (fun c_26 => ?_) (fun c_26 => ?_)
      · refine lv_iconst (v := 0) hx hb dX0_isShutAt_41 (by decide) ?_
        exact fin _ _ _ _ _ (by decide) (by simp only [k_shutAt, if_neg c_5, if_neg c_18, if_pos c_26, reduceIte]) hP hS dX0_isShutAt_42
      · refine lv_iload_n hx hb dX0_isShutAt_29 rfl (lv_at hl 1 rfl) ?_
        refine lv_aload_n hx hb dX0_isShutAt_30 rfl (lv_at hl 0 rfl) ?_
        refine va_get (D := D) (ci := 0) (v := .int (K 13)) (C := RX0) (T := TX0) (N := 14) hx hb hts hiX0 hown hK hP 0 rfl rfl 10 (by decide) (hts (.fieldLink RX0 43 "CuckooShop$Clock" "shutTill" "I") (by decide +kernel)) (fun _ h9 => h9) rfl dX0_isShutAt_31 ?_
        refine lv_icmp_ge (tgt := 41) hx hb dX0_isShutAt_34 (by decide) (fun c_34 => ?_) (fun c_34 => ?_)
        · refine lv_iconst (v := 0) hx hb dX0_isShutAt_41 (by decide) ?_
          exact fin _ _ _ _ _ (by decide) (by simp only [k_shutAt, if_neg c_5, if_neg c_18, if_neg c_26, if_pos c_34, reduceIte]) hP hS dX0_isShutAt_42
        · refine lv_iconst (v := 1) hx hb dX0_isShutAt_37 (by decide) ?_
          refine lv_goto (tgt := 42) hx hb dX0_isShutAt_38 (by decide) ?_
          exact fin _ _ _ _ _ (by decide) (by simp only [k_shutAt, if_neg c_5, if_neg c_18, if_neg c_26, if_neg c_34, reduceIte]) hP hS dX0_isShutAt_42
  · refine lv_iconst (v := 0) hx hb dX0_isShutAt_8 (by decide) ?_
    exact fin _ _ _ _ _ (by decide) (by simp only [k_shutAt, if_pos c_5, reduceIte]) hP hS dX0_isShutAt_9

set_option maxHeartbeats 4000000 in
set_option maxRecDepth 100000 in
theorem m_X0_minutesToStand (l : Launch) (D : va_G) (C : Nat → ClassId) (h0 : Nat) (K : Nat → Int32) : cu_I l D C yX0_minutesToStand wsX0_minutesToStand { frames := 0, cells := 0, slots := 0, locals := 0 } [.ref h0] (cu_wc h0 K) (cu_wc h0 K) (k_stand K) 0 0 := by
  refine cu_openI (cc := cX0_minutesToStand) (maxL := 1) (ty := .int) (own := RX0) (by decide) rfl rfl (Nat.le_of_ble_eq_true rfl) ?_
  intro p e s m args below meth c A Z H0 ls e0 hx hb hml hts hown hnm hG hP hD hS hA hl fin
  have hK := hG.1
  have hl : lv_has ls 1 [(0, .ref h0)] := hl
  have hiX0 : ∀ w ∈ wsX00, w ∈ wsX0_minutesToStand := by decide +kernel
  refine lv_aload_n hx hb dX0_minutesToStand_0 rfl (lv_at hl 0 rfl) ?_
  refine va_get (D := D) (ci := 0) (v := .int (K 5)) (C := RX0) (T := TX0) (N := 14) hx hb hts hiX0 hown hK hP 0 rfl rfl 6 (by decide) (hts (.fieldLink RX0 30 "CuckooShop$Clock" "goes" "Z") (by decide +kernel)) (fun _ h9 => h9) rfl dX0_minutesToStand_1 ?_
  refine lv_if_eq (tgt := 14) hx hb dX0_minutesToStand_4 (by decide) (fun c_4 => ?_) (fun c_4 => ?_)
  · refine lv_iconst (v := 0) hx hb dX0_minutesToStand_14 (by decide) ?_
    exact fin _ _ _ _ _ rfl (by simp only [k_stand, if_pos c_4, reduceIte]) hP hS dX0_minutesToStand_15
  · refine lv_aload_n hx hb dX0_minutesToStand_7 rfl (lv_at hl 0 rfl) ?_
    refine va_get (D := D) (ci := 0) (v := .int (K 2)) (C := RX0) (T := TX0) (N := 14) hx hb hts hiX0 hown hK hP 0 rfl rfl 3 (by decide) (hts (.fieldLink RX0 21 "CuckooShop$Clock" "chain" "I") (by decide +kernel)) (fun _ h9 => h9) rfl dX0_minutesToStand_8 ?_
    refine lv_goto (tgt := 15) hx hb dX0_minutesToStand_11 (by decide) ?_
    exact fin _ _ _ _ _ rfl (by simp only [k_stand, if_neg c_4, reduceIte]) hP hS dX0_minutesToStand_15

set_option maxHeartbeats 4000000 in
set_option maxRecDepth 100000 in
theorem m_X0_cuckoo (l : Launch) (D : va_G) (C : Nat → ClassId) (h0 : Nat) (K : Nat → Int32) (v1 : Int32) : cu_V l D C yX0_cuckoo wsX0_cuckoo { frames := 1, cells := 0, slots := 0, locals := 13 } [.ref h0, .int v1] (cu_wc h0 K) (cu_wc h0 (k_cuckoo K v1)) 0 0 := by
  refine cu_openV (cc := cX0_cuckoo) (maxL := 3) (own := RX0) (by decide) rfl rfl (Nat.le_of_ble_eq_true rfl) ?_
  intro p e s m args below meth c A Z H0 ls e0 hx hb hml hts hown hnm hG hP hD hS hA hl fin
  have hK := hG.1
  have hl : lv_has ls 3 [(0, .ref h0), (1, .int v1)] := hl
  have hiX0 : ∀ w ∈ wsX00, w ∈ wsX0_cuckoo := by decide +kernel
  refine lv_iload_n hx hb dX0_cuckoo_0 rfl (lv_at hl 1 rfl) ?_
  refine lv_aload_n hx hb dX0_cuckoo_1 rfl (lv_at hl 0 rfl) ?_
  refine va_get (D := D) (ci := 0) (v := .int (K 4)) (C := RX0) (T := TX0) (N := 14) hx hb hts hiX0 hown hK hP 0 rfl rfl 5 (by decide) (hts (.fieldLink RX0 27 "CuckooShop$Clock" "bellows" "I") (by decide +kernel)) (fun _ h9 => h9) rfl dX0_cuckoo_2 ?_
  refine va_mmin hx hb (hml.trans hl.1.symm) hown (hts (.methodLink RX0 87 Lib.Math.min.name) (by decide +kernel)) (hts (.static Lib.Math.min.name) (by decide +kernel)) (hts (.initialized "java/lang/Math") (by decide +kernel)) (hts (.code Lib.Math.min.name Lib.Math.min.code 2 (some .int)) (by decide +kernel)) (Nat.le_of_ble_eq_true rfl) (Nat.le_of_ble_eq_true rfl) (Nat.zero_le _) (Nat.zero_le _) dX0_cuckoo_5 ?_
  refine lv_topi (fun dn edn => ?_)
  refine lv_istore_n (lv' := [(2, .int dn), (0, .ref h0), (1, .int v1)]) hx hb dX0_cuckoo_8 rfl hl (by decide) rfl (fun ls hl => ?_)
  refine lv_aload_n hx hb dX0_cuckoo_9 rfl (lv_at hl 1 rfl) ?_
  refine lv_dup hx hb dX0_cuckoo_10 rfl ?_
  refine va_get (D := D) (ci := 0) (v := .int (K 4)) (C := RX0) (T := TX0) (N := 14) hx hb hts hiX0 hown hK hP 0 rfl rfl 5 (by decide) (hts (.fieldLink RX0 27 "CuckooShop$Clock" "bellows" "I") (by decide +kernel)) (fun _ h9 => h9) rfl dX0_cuckoo_11 ?_
  refine lv_iload_n hx hb dX0_cuckoo_14 rfl (lv_at hl 0 rfl) ?_
  refine lv_isub hx hb dX0_cuckoo_15 ?_
  refine va_put (D := D) (ci := 0) (v := .int ((K 4) - dn)) (ty := .int) (C := RX0) (T := TX0) (N := 14) hx hb hts hiX0 tyX0 tyX0_ok nmX0 hown hK hP hD hS 0 rfl rfl 5 (by decide) (hts (.fieldLink RX0 27 "CuckooShop$Clock" "bellows" "I") (by decide +kernel)) (fun _ h9 => h9) rfl (by decide +kernel) rfl rfl (Nat.le_of_ble_eq_true rfl) dX0_cuckoo_16 (fun H locs hP hD hS => ?_)
  have hP : va_P D vwCl (cu_wc h0 (upd K 4 ((K 4) - dn))) H := hP
  have hD : va_D A (cu_wc h0 (upd K 4 ((K 4) - dn))) := hD
  refine lv_aload_n hx hb dX0_cuckoo_19 rfl (lv_at hl 1 rfl) ?_
  refine lv_dup hx hb dX0_cuckoo_20 rfl ?_
  refine va_get (D := D) (ci := 0) (v := .int (K 6)) (C := RX0) (T := TX0) (N := 14) hx hb hts hiX0 hown hK hP 0 rfl rfl 11 (by decide) (hts (.fieldLink RX0 46 "CuckooShop$Clock" "calls" "I") (by decide +kernel)) (fun _ h9 => h9) rfl dX0_cuckoo_21 ?_
  refine lv_iload_n hx hb dX0_cuckoo_24 rfl (lv_at hl 0 rfl) ?_
  refine lv_iadd hx hb dX0_cuckoo_25 ?_
  refine va_put (D := D) (ci := 0) (v := .int ((K 6) + dn)) (ty := .int) (C := RX0) (T := TX0) (N := 14) hx hb hts hiX0 tyX0 tyX0_ok nmX0 hown hK hP hD hS 0 rfl rfl 11 (by decide) (hts (.fieldLink RX0 46 "CuckooShop$Clock" "calls" "I") (by decide +kernel)) (fun _ h9 => h9) rfl (by decide +kernel) rfl rfl (Nat.le_of_ble_eq_true rfl) dX0_cuckoo_26 (fun H locs hP hD hS => ?_)
  have hP : va_P D vwCl (cu_wc h0 (upd (upd K 4 ((K 4) - dn)) 6 ((K 6) + dn))) H := hP
  have hD : va_D A (cu_wc h0 (upd (upd K 4 ((K 4) - dn)) 6 ((K 6) + dn))) := hD
  refine lv_aload_n hx hb dX0_cuckoo_29 rfl (lv_at hl 1 rfl) ?_
  refine lv_dup hx hb dX0_cuckoo_30 rfl ?_
  refine va_get (D := D) (ci := 0) (v := .int (K 8)) (C := RX0) (T := TX0) (N := 14) hx hb hts hiX0 hown hK hP 0 rfl rfl 13 (by decide) (hts (.fieldLink RX0 52 "CuckooShop$Clock" "latestCalls" "I") (by decide +kernel)) (fun _ h9 => h9) rfl dX0_cuckoo_31 ?_
  refine lv_iload_n hx hb dX0_cuckoo_34 rfl (lv_at hl 0 rfl) ?_
  refine lv_iadd hx hb dX0_cuckoo_35 ?_
  refine va_put (D := D) (ci := 0) (v := .int ((K 8) + dn)) (ty := .int) (C := RX0) (T := TX0) (N := 14) hx hb hts hiX0 tyX0 tyX0_ok nmX0 hown hK hP hD hS 0 rfl rfl 13 (by decide) (hts (.fieldLink RX0 52 "CuckooShop$Clock" "latestCalls" "I") (by decide +kernel)) (fun _ h9 => h9) rfl (by decide +kernel) rfl rfl (Nat.le_of_ble_eq_true rfl) dX0_cuckoo_36 (fun H locs hP hD hS => ?_)
  have hP : va_P D vwCl (cu_wc h0 (upd (upd (upd K 4 ((K 4) - dn)) 6 ((K 6) + dn)) 8 ((K 8) + dn))) H := hP
  have hD : va_D A (cu_wc h0 (upd (upd (upd K 4 ((K 4) - dn)) 6 ((K 6) + dn)) 8 ((K 8) + dn))) := hD
  refine lv_aload_n hx hb dX0_cuckoo_39 rfl (lv_at hl 1 rfl) ?_
  refine lv_dup hx hb dX0_cuckoo_40 rfl ?_
  refine va_get (D := D) (ci := 0) (v := .int (K 7)) (C := RX0) (T := TX0) (N := 14) hx hb hts hiX0 hown hK hP 0 rfl rfl 12 (by decide) (hts (.fieldLink RX0 49 "CuckooShop$Clock" "missed" "I") (by decide +kernel)) (fun _ h9 => h9) rfl dX0_cuckoo_41 ?_
  refine lv_iload_n hx hb dX0_cuckoo_44 rfl (lv_at hl 2 rfl) ?_
  refine lv_iload_n hx hb dX0_cuckoo_45 rfl (lv_at hl 0 rfl) ?_
  refine lv_isub hx hb dX0_cuckoo_46 ?_
  refine lv_iadd hx hb dX0_cuckoo_47 ?_
  refine va_put (D := D) (ci := 0) (v := .int ((K 7) + (v1 - dn))) (ty := .int) (C := RX0) (T := TX0) (N := 14) hx hb hts hiX0 tyX0 tyX0_ok nmX0 hown hK hP hD hS 0 rfl rfl 12 (by decide) (hts (.fieldLink RX0 49 "CuckooShop$Clock" "missed" "I") (by decide +kernel)) (fun _ h9 => h9) rfl (by decide +kernel) rfl rfl (Nat.le_of_ble_eq_true rfl) dX0_cuckoo_48 (fun H locs hP hD hS => ?_)
  have hP : va_P D vwCl (cu_wc h0 (upd (upd (upd (upd K 4 ((K 4) - dn)) 6 ((K 6) + dn)) 8 ((K 8) + dn)) 7 ((K 7) + (v1 - dn)))) H := hP
  have hD : va_D A (cu_wc h0 (upd (upd (upd (upd K 4 ((K 4) - dn)) 6 ((K 6) + dn)) 8 ((K 8) + dn)) 7 ((K 7) + (v1 - dn)))) := hD
  subst edn
  exact fin _ _ _ _ hP hS dX0_cuckoo_51

set_option maxHeartbeats 4000000 in
set_option maxRecDepth 100000 in
theorem m_X0_wear (l : Launch) (D : va_G) (C : Nat → ClassId) (h0 : Nat) (K : Nat → Int32) (v1 : Int32) : cu_V l D C yX0_wear wsX0_wear { frames := 0, cells := 0, slots := 0, locals := 0 } [.ref h0, .int v1] (cu_wc h0 K) (cu_wc h0 (k_wear v1 K)) 0 0 := by
  refine cu_openV (cc := cX0_wear) (maxL := 2) (own := RX0) (by decide) rfl rfl (Nat.le_of_ble_eq_true rfl) ?_
  intro p e s m args below meth c A Z H0 ls e0 hx hb hml hts hown hnm hG hP hD hS hA hl fin
  have hK := hG.1
  have hl : lv_has ls 2 [(0, .ref h0), (1, .int v1)] := hl
  have hiX0 : ∀ w ∈ wsX00, w ∈ wsX0_wear := by decide +kernel
  refine lv_aload_n hx hb dX0_wear_0 rfl (lv_at hl 0 rfl) ?_
  refine lv_dup hx hb dX0_wear_1 rfl ?_
  refine va_get (D := D) (ci := 0) (v := .int (K 2)) (C := RX0) (T := TX0) (N := 14) hx hb hts hiX0 hown hK hP 0 rfl rfl 3 (by decide) (hts (.fieldLink RX0 21 "CuckooShop$Clock" "chain" "I") (by decide +kernel)) (fun _ h9 => h9) rfl dX0_wear_2 ?_
  refine lv_iconst (v := 1) hx hb dX0_wear_5 (by decide) ?_
  refine lv_isub hx hb dX0_wear_6 ?_
  refine va_put (D := D) (ci := 0) (v := .int ((K 2) - 1)) (ty := .int) (C := RX0) (T := TX0) (N := 14) hx hb hts hiX0 tyX0 tyX0_ok nmX0 hown hK hP hD hS 0 rfl rfl 3 (by decide) (hts (.fieldLink RX0 21 "CuckooShop$Clock" "chain" "I") (by decide +kernel)) (fun _ h9 => h9) rfl (by decide +kernel) rfl rfl (Nat.le_of_ble_eq_true rfl) dX0_wear_7 (fun H locs hP hD hS => ?_)
  have hP : va_P D vwCl (cu_wc h0 (upd K 2 ((K 2) - 1))) H := hP
  have hD : va_D A (cu_wc h0 (upd K 2 ((K 2) - 1))) := hD
  refine lv_iload_n hx hb dX0_wear_10 rfl (lv_at hl 1 rfl) ?_
  refine lv_bipush (v := 10) hx hb dX0_wear_11 (by decide) ?_
  refine lv_irem hx hb dX0_wear_13 (by decide) ?_
  refine lv_if_ne (tgt := 34) hx hb dX0_wear_14 (by decide) (fun c_14 => ?_) (fun c_14 => ?_)
  · refine lv_aload_n hx hb dX0_wear_34 rfl (lv_at hl 0 rfl) ?_
    refine va_get (D := D) (ci := 0) (v := .int ((K 2) - 1)) (C := RX0) (T := TX0) (N := 14) hx hb hts hiX0 hown hK hP 0 rfl rfl 3 (by decide) (hts (.fieldLink RX0 21 "CuckooShop$Clock" "chain" "I") (by decide +kernel)) (fun _ h9 => h9) rfl dX0_wear_35 ?_
    refine lv_if_gt (tgt := 46) hx hb dX0_wear_38 (by decide) (fun c_38 => ?_) (fun c_38 => ?_)
    · exact fin _ _ _ _ (by simpa only [k_wear, k_wearO, if_neg c_14, if_pos c_38, reduceIte] using hP) hS dX0_wear_46
    · refine lv_aload_n hx hb dX0_wear_41 rfl (lv_at hl 0 rfl) ?_
      refine lv_iconst (v := 0) hx hb dX0_wear_42 (by decide) ?_
      refine va_put (D := D) (ci := 0) (v := .int 0) (ty := .boolean) (C := RX0) (T := TX0) (N := 14) hx hb hts hiX0 tyX0 tyX0_ok nmX0 hown hK hP hD hS 0 rfl rfl 6 (by decide) (hts (.fieldLink RX0 30 "CuckooShop$Clock" "goes" "Z") (by decide +kernel)) (fun _ h9 => h9) rfl (by decide +kernel) rfl rfl (Nat.le_of_ble_eq_true rfl) dX0_wear_43 (fun H locs hP hD hS => ?_)
      have hP : va_P D vwCl (cu_wc h0 (upd (upd K 2 ((K 2) - 1)) 5 0)) H := hP
      have hD : va_D A (cu_wc h0 (upd (upd K 2 ((K 2) - 1)) 5 0)) := hD
      exact fin _ _ _ _ (by simpa only [k_wear, k_wearO, if_neg c_14, if_neg c_38, reduceIte] using hP) hS dX0_wear_46
  · refine lv_aload_n hx hb dX0_wear_17 rfl (lv_at hl 0 rfl) ?_
    refine va_get (D := D) (ci := 0) (v := .int (K 3)) (C := RX0) (T := TX0) (N := 14) hx hb hts hiX0 hown hK hP 0 rfl rfl 4 (by decide) (hts (.fieldLink RX0 24 "CuckooShop$Clock" "oil" "I") (by decide +kernel)) (fun _ h9 => h9) rfl dX0_wear_18 ?_
    refine lv_if_le (tgt := 34) hx hb dX0_wear_21 (by decide) (fun c_21 => ?_) (fun c_21 => ?_)
    · refine lv_aload_n hx hb dX0_wear_34 rfl (lv_at hl 0 rfl) ?_
      refine va_get (D := D) (ci := 0) (v := .int ((K 2) - 1)) (C := RX0) (T := TX0) (N := 14) hx hb hts hiX0 hown hK hP 0 rfl rfl 3 (by decide) (hts (.fieldLink RX0 21 "CuckooShop$Clock" "chain" "I") (by decide +kernel)) (fun _ h9 => h9) rfl dX0_wear_35 ?_
      refine lv_if_gt (tgt := 46) hx hb dX0_wear_38 (by decide) (fun c_38 => ?_) (fun c_38 => ?_)
      · exact fin _ _ _ _ (by simpa only [k_wear, k_wearO, if_pos c_14, if_pos c_21, if_pos c_38, reduceIte] using hP) hS dX0_wear_46
      · refine lv_aload_n hx hb dX0_wear_41 rfl (lv_at hl 0 rfl) ?_
        refine lv_iconst (v := 0) hx hb dX0_wear_42 (by decide) ?_
        refine va_put (D := D) (ci := 0) (v := .int 0) (ty := .boolean) (C := RX0) (T := TX0) (N := 14) hx hb hts hiX0 tyX0 tyX0_ok nmX0 hown hK hP hD hS 0 rfl rfl 6 (by decide) (hts (.fieldLink RX0 30 "CuckooShop$Clock" "goes" "Z") (by decide +kernel)) (fun _ h9 => h9) rfl (by decide +kernel) rfl rfl (Nat.le_of_ble_eq_true rfl) dX0_wear_43 (fun H locs hP hD hS => ?_)
        have hP : va_P D vwCl (cu_wc h0 (upd (upd K 2 ((K 2) - 1)) 5 0)) H := hP
        have hD : va_D A (cu_wc h0 (upd (upd K 2 ((K 2) - 1)) 5 0)) := hD
        exact fin _ _ _ _ (by simpa only [k_wear, k_wearO, if_pos c_14, if_pos c_21, if_neg c_38, reduceIte] using hP) hS dX0_wear_46
    · refine lv_aload_n hx hb dX0_wear_24 rfl (lv_at hl 0 rfl) ?_
      refine lv_dup hx hb dX0_wear_25 rfl ?_
      refine va_get (D := D) (ci := 0) (v := .int (K 3)) (C := RX0) (T := TX0) (N := 14) hx hb hts hiX0 hown hK hP 0 rfl rfl 4 (by decide) (hts (.fieldLink RX0 24 "CuckooShop$Clock" "oil" "I") (by decide +kernel)) (fun _ h9 => h9) rfl dX0_wear_26 ?_
      refine lv_iconst (v := 1) hx hb dX0_wear_29 (by decide) ?_
      refine lv_isub hx hb dX0_wear_30 ?_
      refine va_put (D := D) (ci := 0) (v := .int ((K 3) - 1)) (ty := .int) (C := RX0) (T := TX0) (N := 14) hx hb hts hiX0 tyX0 tyX0_ok nmX0 hown hK hP hD hS 0 rfl rfl 4 (by decide) (hts (.fieldLink RX0 24 "CuckooShop$Clock" "oil" "I") (by decide +kernel)) (fun _ h9 => h9) rfl (by decide +kernel) rfl rfl (Nat.le_of_ble_eq_true rfl) dX0_wear_31 (fun H locs hP hD hS => ?_)
      have hP : va_P D vwCl (cu_wc h0 (upd (upd K 2 ((K 2) - 1)) 3 ((K 3) - 1))) H := hP
      have hD : va_D A (cu_wc h0 (upd (upd K 2 ((K 2) - 1)) 3 ((K 3) - 1))) := hD
      refine lv_aload_n hx hb dX0_wear_34 rfl (lv_at hl 0 rfl) ?_
      refine va_get (D := D) (ci := 0) (v := .int ((K 2) - 1)) (C := RX0) (T := TX0) (N := 14) hx hb hts hiX0 hown hK hP 0 rfl rfl 3 (by decide) (hts (.fieldLink RX0 21 "CuckooShop$Clock" "chain" "I") (by decide +kernel)) (fun _ h9 => h9) rfl dX0_wear_35 ?_
      refine lv_if_gt (tgt := 46) hx hb dX0_wear_38 (by decide) (fun c_38 => ?_) (fun c_38 => ?_)
      · exact fin _ _ _ _ (by simpa only [k_wear, k_wearO, if_pos c_14, if_neg c_21, if_pos c_38, reduceIte] using hP) hS dX0_wear_46
      · refine lv_aload_n hx hb dX0_wear_41 rfl (lv_at hl 0 rfl) ?_
        refine lv_iconst (v := 0) hx hb dX0_wear_42 (by decide) ?_
        refine va_put (D := D) (ci := 0) (v := .int 0) (ty := .boolean) (C := RX0) (T := TX0) (N := 14) hx hb hts hiX0 tyX0 tyX0_ok nmX0 hown hK hP hD hS 0 rfl rfl 6 (by decide) (hts (.fieldLink RX0 30 "CuckooShop$Clock" "goes" "Z") (by decide +kernel)) (fun _ h9 => h9) rfl (by decide +kernel) rfl rfl (Nat.le_of_ble_eq_true rfl) dX0_wear_43 (fun H locs hP hD hS => ?_)
        have hP : va_P D vwCl (cu_wc h0 (upd (upd (upd K 2 ((K 2) - 1)) 3 ((K 3) - 1)) 5 0)) H := hP
        have hD : va_D A (cu_wc h0 (upd (upd (upd K 2 ((K 2) - 1)) 3 ((K 3) - 1)) 5 0)) := hD
        exact fin _ _ _ _ (by simpa only [k_wear, k_wearO, if_pos c_14, if_neg c_21, if_neg c_38, reduceIte] using hP) hS dX0_wear_46

set_option maxHeartbeats 4000000 in
set_option maxRecDepth 100000 in
theorem m_X0_callsDueAt (l : Launch) (D : va_G) (C : Nat → ClassId) (v1 : Int32) : cu_I l D C yX0_callsDueAt wsX0_callsDueAt { frames := 0, cells := 0, slots := 0, locals := 0 } [.int v1] ([] : va_W) ([] : va_W) (k_due v1) 0 0 := by
  refine cu_openI (cc := cX0_callsDueAt) (maxL := 1) (ty := .int) (own := RX0) (by decide) rfl rfl (Nat.le_of_ble_eq_true rfl) ?_
  intro p e s m args below meth c A Z H0 ls e0 hx hb hml hts hown hnm hG hP hD hS hA hl fin
  have hK := hG.1
  have hl : lv_has ls 1 [(0, .int v1)] := hl
  refine lv_iload_n hx hb dX0_callsDueAt_0 rfl (lv_at hl 0 rfl) ?_
  refine lv_if_ne (tgt := 7) hx hb dX0_callsDueAt_1 (by decide) (fun c_1 => ?_) (fun c_1 => ?_)
  · refine lv_iload_n hx hb dX0_callsDueAt_7 rfl (lv_at hl 0 rfl) ?_
    refine lv_bipush (v := 60) hx hb dX0_callsDueAt_8 (by decide) ?_
    refine lv_irem hx hb dX0_callsDueAt_10 (by decide) ?_
    refine lv_if_ne (tgt := 19) hx hb dX0_callsDueAt_11 (by decide) (fun c_11 => ?_) (fun c_11 => ?_)
    · refine lv_iload_n hx hb dX0_callsDueAt_19 rfl (lv_at hl 0 rfl) ?_
      refine lv_bipush (v := 30) hx hb dX0_callsDueAt_20 (by decide) ?_
      refine lv_irem hx hb dX0_callsDueAt_22 (by decide) ?_
      refine lv_if_ne (tgt := 30) hx hb dX0_callsDueAt_23 (by decide) (fun c_23 => ?_) (fun c_23 => ?_)
      · refine lv_iconst (v := 0) hx hb dX0_callsDueAt_30 (by decide) ?_
        exact fin _ _ _ _ _ rfl (by simp only [k_due, if_neg c_1, if_neg c_11, if_neg c_23, reduceIte]) hP hS dX0_callsDueAt_31
      · refine lv_iconst (v := 1) hx hb dX0_callsDueAt_26 (by decide) ?_
        refine lv_goto (tgt := 31) hx hb dX0_callsDueAt_27 (by decide) ?_
        exact fin _ _ _ _ _ rfl (by simp only [k_due, if_neg c_1, if_neg c_11, if_pos c_23, reduceIte]) hP hS dX0_callsDueAt_31
    · refine lv_iload_n hx hb dX0_callsDueAt_14 rfl (lv_at hl 0 rfl) ?_
      refine lv_bipush (v := 60) hx hb dX0_callsDueAt_15 (by decide) ?_
      refine lv_idiv hx hb dX0_callsDueAt_17 (by decide) ?_
      exact fin _ _ _ _ _ rfl (by simp only [k_due, if_neg c_1, if_pos c_11, reduceIte]) hP hS dX0_callsDueAt_18
  · refine lv_bipush (v := 12) hx hb dX0_callsDueAt_4 (by decide) ?_
    exact fin _ _ _ _ _ rfl (by simp only [k_due, if_pos c_1, reduceIte]) hP hS dX0_callsDueAt_6

set_option maxHeartbeats 4000000 in
set_option maxRecDepth 100000 in
theorem m_X0_reading (l : Launch) (D : va_G) (C : Nat → ClassId) (h0 : Nat) (K : Nat → Int32) (v1 : Int32) : cu_I l D C yX0_reading wsX0_reading { frames := 2, cells := 0, slots := 0, locals := 43 } [.ref h0, .int v1] (cu_wc h0 K) (cu_wc h0 K) (k_read K v1) 0 0 := by
  refine cu_openI (cc := cX0_reading) (maxL := 2) (ty := .int) (own := RX0) (by decide) rfl rfl (Nat.le_of_ble_eq_true rfl) ?_
  intro p e s m args below meth c A Z H0 ls e0 hx hb hml hts hown hnm hG hP hD hS hA hl fin
  have hK := hG.1
  have hl : lv_has ls 2 [(0, .ref h0), (1, .int v1)] := hl
  have hiX0 : ∀ w ∈ wsX00, w ∈ wsX0_reading := by decide +kernel
  refine lv_iload_n hx hb dX0_reading_0 rfl (lv_at hl 1 rfl) ?_
  by_cases s_0 : v1 = 0
  · subst s_0
    refine lv_tableIn (off := 55) (tgt := 56) hx hb dX0_reading_1 (by decide) (by decide) (by decide) (by decide) ?_
    refine lv_aload_n hx hb dX0_reading_56 rfl (lv_at hl 0 rfl) ?_
    refine va_get (D := D) (ci := 0) (v := .int (K 0)) (C := RX0) (T := TX0) (N := 14) hx hb hts hiX0 hown hK hP 0 rfl rfl 7 (by decide) (hts (.fieldLink RX0 34 "CuckooShop$Clock" "shown" "I") (by decide +kernel)) (fun _ h9 => h9) rfl dX0_reading_57 ?_
    exact fin _ _ _ _ _ rfl (by simp only [k_read, reduceIte]) hP hS dX0_reading_60
  by_cases s_1 : v1 = 1
  · subst s_1
    refine lv_tableIn (off := 60) (tgt := 61) hx hb dX0_reading_1 (by decide) (by decide) (by decide) (by decide) ?_
    refine lv_aload_n hx hb dX0_reading_61 rfl (lv_at hl 0 rfl) ?_
    refine va_get (D := D) (ci := 0) (v := .int (K 1)) (C := RX0) (T := TX0) (N := 14) hx hb hts hiX0 hown hK hP 0 rfl rfl 8 (by decide) (hts (.fieldLink RX0 37 "CuckooShop$Clock" "rest" "I") (by decide +kernel)) (fun _ h9 => h9) rfl dX0_reading_62 ?_
    exact fin _ _ _ _ _ rfl (by simp only [k_read, if_neg s_0, reduceIte]) hP hS dX0_reading_65
  by_cases s_2 : v1 = 2
  · subst s_2
    refine lv_tableIn (off := 65) (tgt := 66) hx hb dX0_reading_1 (by decide) (by decide) (by decide) (by decide) ?_
    refine lv_aload_n hx hb dX0_reading_66 rfl (lv_at hl 0 rfl) ?_
    refine va_get (D := D) (ci := 0) (v := .int (K 2)) (C := RX0) (T := TX0) (N := 14) hx hb hts hiX0 hown hK hP 0 rfl rfl 3 (by decide) (hts (.fieldLink RX0 21 "CuckooShop$Clock" "chain" "I") (by decide +kernel)) (fun _ h9 => h9) rfl dX0_reading_67 ?_
    exact fin _ _ _ _ _ rfl (by simp only [k_read, if_neg s_0, if_neg s_1, reduceIte]) hP hS dX0_reading_70
  by_cases s_3 : v1 = 3
  · subst s_3
    refine lv_tableIn (off := 70) (tgt := 71) hx hb dX0_reading_1 (by decide) (by decide) (by decide) (by decide) ?_
    refine lv_aload_n hx hb dX0_reading_71 rfl (lv_at hl 0 rfl) ?_
    refine va_get (D := D) (ci := 0) (v := .int (K 3)) (C := RX0) (T := TX0) (N := 14) hx hb hts hiX0 hown hK hP 0 rfl rfl 4 (by decide) (hts (.fieldLink RX0 24 "CuckooShop$Clock" "oil" "I") (by decide +kernel)) (fun _ h9 => h9) rfl dX0_reading_72 ?_
    exact fin _ _ _ _ _ rfl (by simp only [k_read, if_neg s_0, if_neg s_1, if_neg s_2, reduceIte]) hP hS dX0_reading_75
  by_cases s_4 : v1 = 4
  · subst s_4
    refine lv_tableIn (off := 75) (tgt := 76) hx hb dX0_reading_1 (by decide) (by decide) (by decide) (by decide) ?_
    refine lv_aload_n hx hb dX0_reading_76 rfl (lv_at hl 0 rfl) ?_
    refine va_get (D := D) (ci := 0) (v := .int (K 4)) (C := RX0) (T := TX0) (N := 14) hx hb hts hiX0 hown hK hP 0 rfl rfl 5 (by decide) (hts (.fieldLink RX0 27 "CuckooShop$Clock" "bellows" "I") (by decide +kernel)) (fun _ h9 => h9) rfl dX0_reading_77 ?_
    exact fin _ _ _ _ _ rfl (by simp only [k_read, if_neg s_0, if_neg s_1, if_neg s_2, if_neg s_3, reduceIte]) hP hS dX0_reading_80
  by_cases s_5 : v1 = 5
  · subst s_5
    refine lv_tableIn (off := 80) (tgt := 81) hx hb dX0_reading_1 (by decide) (by decide) (by decide) (by decide) ?_
    refine lv_aload_n hx hb dX0_reading_81 rfl (lv_at hl 0 rfl) ?_
    refine va_get (D := D) (ci := 0) (v := .int (K 5)) (C := RX0) (T := TX0) (N := 14) hx hb hts hiX0 hown hK hP 0 rfl rfl 6 (by decide) (hts (.fieldLink RX0 30 "CuckooShop$Clock" "goes" "Z") (by decide +kernel)) (fun _ h9 => h9) rfl dX0_reading_82 ?_
    refine lv_if_eq (tgt := 92) hx hb dX0_reading_85 (by decide) (fun c_85 => ?_) (fun c_85 => ?_)
    · refine lv_iconst (v := 0) hx hb dX0_reading_92 (by decide) ?_
      exact fin _ _ _ _ _ rfl (by simp only [k_read, if_neg s_0, if_neg s_1, if_neg s_2, if_neg s_3, if_neg s_4, if_pos c_85, reduceIte]) hP hS dX0_reading_93
    · refine lv_iconst (v := 1) hx hb dX0_reading_88 (by decide) ?_
      refine lv_goto (tgt := 93) hx hb dX0_reading_89 (by decide) ?_
      exact fin _ _ _ _ _ rfl (by simp only [k_read, if_neg s_0, if_neg s_1, if_neg s_2, if_neg s_3, if_neg s_4, if_neg c_85, reduceIte]) hP hS dX0_reading_93
  by_cases s_6 : v1 = 6
  · subst s_6
    refine lv_tableIn (off := 93) (tgt := 94) hx hb dX0_reading_1 (by decide) (by decide) (by decide) (by decide) ?_
    refine lv_aload_n hx hb dX0_reading_94 rfl (lv_at hl 0 rfl) ?_
    have sp := cu_sp.all (W0 := (cu_wc h0 K)) (W1 := (cu_wc h0 K)) rfl
    refine cu_callI (va_runV (As := []) (rest := []) ⟨hx, hb, hml, hown, hts⟩ ((m_X0_advance l D C h0 K) H0.size) (cwV 0 hts gX0_reading_X0_advance rfl rfl rfl (by decide +kernel) ⟨Nat.le_of_ble_eq_true rfl, Nat.le_of_ble_eq_true rfl⟩) (cu_preV (ci := 0) sp hG hP hD rfl rfl) rfl rfl hl.1 rfl (lv_room (Nat.le_of_ble_eq_true rfl)) dX0_reading_95 ⟨Nat.le_of_ble_eq_true rfl, Nat.le_of_ble_eq_true rfl⟩) sp hP hD hS hA (fun H locs hP hD hS => ?_)
    have hP : va_P D vwCl (cu_wc h0 K) H := hP
    have hD : va_D A (cu_wc h0 K) := hD
    exact fin _ _ _ _ _ rfl (by simp only [k_read, if_neg s_0, if_neg s_1, if_neg s_2, if_neg s_3, if_neg s_4, if_neg s_5, reduceIte]) hP hS dX0_reading_98
  by_cases s_7 : v1 = 7
  · subst s_7
    refine lv_tableIn (off := 98) (tgt := 99) hx hb dX0_reading_1 (by decide) (by decide) (by decide) (by decide) ?_
    refine lv_aload_n hx hb dX0_reading_99 rfl (lv_at hl 0 rfl) ?_
    refine va_get (D := D) (ci := 0) (v := .int (K 6)) (C := RX0) (T := TX0) (N := 14) hx hb hts hiX0 hown hK hP 0 rfl rfl 11 (by decide) (hts (.fieldLink RX0 46 "CuckooShop$Clock" "calls" "I") (by decide +kernel)) (fun _ h9 => h9) rfl dX0_reading_100 ?_
    exact fin _ _ _ _ _ rfl (by simp only [k_read, if_neg s_0, if_neg s_1, if_neg s_2, if_neg s_3, if_neg s_4, if_neg s_5, if_neg s_6, reduceIte]) hP hS dX0_reading_103
  by_cases s_8 : v1 = 8
  · subst s_8
    refine lv_tableIn (off := 103) (tgt := 104) hx hb dX0_reading_1 (by decide) (by decide) (by decide) (by decide) ?_
    refine lv_aload_n hx hb dX0_reading_104 rfl (lv_at hl 0 rfl) ?_
    refine va_get (D := D) (ci := 0) (v := .int (K 7)) (C := RX0) (T := TX0) (N := 14) hx hb hts hiX0 hown hK hP 0 rfl rfl 12 (by decide) (hts (.fieldLink RX0 49 "CuckooShop$Clock" "missed" "I") (by decide +kernel)) (fun _ h9 => h9) rfl dX0_reading_105 ?_
    exact fin _ _ _ _ _ rfl (by simp only [k_read, if_neg s_0, if_neg s_1, if_neg s_2, if_neg s_3, if_neg s_4, if_neg s_5, if_neg s_6, if_neg s_7, reduceIte]) hP hS dX0_reading_108
  by_cases s_9 : v1 = 9
  · subst s_9
    refine lv_tableIn (off := 108) (tgt := 109) hx hb dX0_reading_1 (by decide) (by decide) (by decide) (by decide) ?_
    refine lv_aload_n hx hb dX0_reading_109 rfl (lv_at hl 0 rfl) ?_
    refine va_get (D := D) (ci := 0) (v := .int (K 8)) (C := RX0) (T := TX0) (N := 14) hx hb hts hiX0 hown hK hP 0 rfl rfl 13 (by decide) (hts (.fieldLink RX0 52 "CuckooShop$Clock" "latestCalls" "I") (by decide +kernel)) (fun _ h9 => h9) rfl dX0_reading_110 ?_
    exact fin _ _ _ _ _ rfl (by simp only [k_read, if_neg s_0, if_neg s_1, if_neg s_2, if_neg s_3, if_neg s_4, if_neg s_5, if_neg s_6, if_neg s_7, if_neg s_8, reduceIte]) hP hS dX0_reading_113
  refine lv_tableOut (tgt := 114) hx hb dX0_reading_1 (by have q_0 := cu_ne s_0 0 (by decide); have q_1 := cu_ne s_1 1 (by decide); have q_2 := cu_ne s_2 2 (by decide); have q_3 := cu_ne s_3 3 (by decide); have q_4 := cu_ne s_4 4 (by decide); have q_5 := cu_ne s_5 5 (by decide); have q_6 := cu_ne s_6 6 (by decide); have q_7 := cu_ne s_7 7 (by decide); have q_8 := cu_ne s_8 8 (by decide); have q_9 := cu_ne s_9 9 (by decide); omega) (by decide) ?_
  refine lv_aload_n hx hb dX0_reading_114 rfl (lv_at hl 0 rfl) ?_
  refine lv_aload_n hx hb dX0_reading_115 rfl (lv_at hl 0 rfl) ?_
  refine va_get (D := D) (ci := 0) (v := .int (K 0)) (C := RX0) (T := TX0) (N := 14) hx hb hts hiX0 hown hK hP 0 rfl rfl 7 (by decide) (hts (.fieldLink RX0 34 "CuckooShop$Clock" "shown" "I") (by decide +kernel)) (fun _ h9 => h9) rfl dX0_reading_116 ?_
  have sp := cu_sp.all (W0 := (cu_wc h0 K)) (W1 := (cu_wc h0 K)) rfl
  refine cu_callI (va_runV (As := [.int (K 0)]) (rest := []) ⟨hx, hb, hml, hown, hts⟩ ((m_X0_isShutAt l D C h0 K (K 0)) H0.size) (cwV 1 hts gX0_reading_X0_isShutAt rfl rfl rfl (by decide +kernel) ⟨Nat.le_of_ble_eq_true rfl, Nat.le_of_ble_eq_true rfl⟩) (cu_preV (ci := 0) sp hG hP hD rfl rfl) rfl rfl hl.1 rfl (lv_room (Nat.le_of_ble_eq_true rfl)) dX0_reading_119 ⟨Nat.le_of_ble_eq_true rfl, Nat.le_of_ble_eq_true rfl⟩) sp hP hD hS hA (fun H locs hP hD hS => ?_)
  have hP : va_P D vwCl (cu_wc h0 K) H := hP
  have hD : va_D A (cu_wc h0 K) := hD
  refine lv_if_eq (tgt := 129) hx hb dX0_reading_122 (by decide) (fun c_122 => ?_) (fun c_122 => ?_)
  · refine lv_iconst (v := 0) hx hb dX0_reading_129 (by decide) ?_
    exact fin _ _ _ _ _ rfl (by simp only [k_read, if_neg s_0, if_neg s_1, if_neg s_2, if_neg s_3, if_neg s_4, if_neg s_5, if_neg s_6, if_neg s_7, if_neg s_8, if_neg s_9, if_pos c_122, reduceIte]) hP hS dX0_reading_130
  · refine lv_iconst (v := 1) hx hb dX0_reading_125 (by decide) ?_
    refine lv_goto (tgt := 130) hx hb dX0_reading_126 (by decide) ?_
    exact fin _ _ _ _ _ rfl (by simp only [k_read, if_neg s_0, if_neg s_1, if_neg s_2, if_neg s_3, if_neg s_4, if_neg s_5, if_neg s_6, if_neg s_7, if_neg s_8, if_neg s_9, if_neg c_122, reduceIte]) hP hS dX0_reading_130
