set_option maxHeartbeats 4000000 in
set_option maxRecDepth 100000 in
theorem m_X0_copyFrom (l : Launch) (D : va_G) (C : Nat → ClassId) (h0 : Nat) (K : Nat → Int32) (h1 : Nat) (J : Nat → Int32) (hJ : J 5 = 0 ∨ J 5 = 1) : cu_V l D C yX0_copyFrom wsX0_copyFrom { frames := 0, cells := 0, slots := 0, locals := 0 } [.ref h0, .ref h1] [(h0, .inr (0, cu_ck K)), (h1, .inr (0, cu_ck J))] [(h0, .inr (0, cu_ck J)), (h1, .inr (0, cu_ck J))] 0 0 := by
  refine cu_openV (cc := cX0_copyFrom) (maxL := 2) (own := RX0) (by decide) rfl rfl (Nat.le_of_ble_eq_true rfl) ?_
  intro p e s m args below meth c A Z H0 ls e0 hx hb hml hts hown hnm hG hP hD hS hA hl fin
  have hK := hG.1
  have hl : lv_has ls 2 [(0, .ref h0), (1, .ref h1)] := hl
  have hiX0 : ∀ w ∈ wsX00, w ∈ wsX0_copyFrom := by decide +kernel
  refine lv_aload_n hx hb dX0_copyFrom_0 rfl (lv_at hl 0 rfl) ?_
  refine lv_aload_n hx hb dX0_copyFrom_1 rfl (lv_at hl 1 rfl) ?_
  refine va_get (D := D) (ci := 0) (v := .int (J 9)) (C := RX0) (T := TX0) (N := 14) hx hb hts hiX0 hown hK hP 1 rfl rfl 0 (by decide) (hts (.fieldLink RX0 9 "CuckooShop$Clock" "gearA" "I") (by decide +kernel)) (fun _ h9 => h9) rfl dX0_copyFrom_2 ?_
  refine va_put (D := D) (ci := 0) (v := .int (J 9)) (ty := .int) (C := RX0) (T := TX0) (N := 14) hx hb hts hiX0 tyX0 tyX0_ok nmX0 hown hK hP hD hS 0 rfl rfl 0 (by decide) (hts (.fieldLink RX0 9 "CuckooShop$Clock" "gearA" "I") (by decide +kernel)) (fun _ h9 => h9) rfl (by decide +kernel) rfl rfl (Nat.le_of_ble_eq_true rfl) dX0_copyFrom_5 (fun H locs hP hD hS => ?_)
  have hP : va_P D vwCl [(h0, .inr (0, cu_ck (upd K 9 (J 9)))), (h1, .inr (0, cu_ck J))] H := hP
  have hD : va_D A [(h0, .inr (0, cu_ck (upd K 9 (J 9)))), (h1, .inr (0, cu_ck J))] := hD
  refine lv_aload_n hx hb dX0_copyFrom_8 rfl (lv_at hl 0 rfl) ?_
  refine lv_aload_n hx hb dX0_copyFrom_9 rfl (lv_at hl 1 rfl) ?_
  refine va_get (D := D) (ci := 0) (v := .int (J 10)) (C := RX0) (T := TX0) (N := 14) hx hb hts hiX0 hown hK hP 1 rfl rfl 1 (by decide) (hts (.fieldLink RX0 15 "CuckooShop$Clock" "gearB" "I") (by decide +kernel)) (fun _ h9 => h9) rfl dX0_copyFrom_10 ?_
  refine va_put (D := D) (ci := 0) (v := .int (J 10)) (ty := .int) (C := RX0) (T := TX0) (N := 14) hx hb hts hiX0 tyX0 tyX0_ok nmX0 hown hK hP hD hS 0 rfl rfl 1 (by decide) (hts (.fieldLink RX0 15 "CuckooShop$Clock" "gearB" "I") (by decide +kernel)) (fun _ h9 => h9) rfl (by decide +kernel) rfl rfl (Nat.le_of_ble_eq_true rfl) dX0_copyFrom_13 (fun H locs hP hD hS => ?_)
  have hP : va_P D vwCl [(h0, .inr (0, cu_ck (upd (upd K 9 (J 9)) 10 (J 10)))), (h1, .inr (0, cu_ck J))] H := hP
  have hD : va_D A [(h0, .inr (0, cu_ck (upd (upd K 9 (J 9)) 10 (J 10)))), (h1, .inr (0, cu_ck J))] := hD
  refine lv_aload_n hx hb dX0_copyFrom_16 rfl (lv_at hl 0 rfl) ?_
  refine lv_aload_n hx hb dX0_copyFrom_17 rfl (lv_at hl 1 rfl) ?_
  refine va_get (D := D) (ci := 0) (v := .int (J 11)) (C := RX0) (T := TX0) (N := 14) hx hb hts hiX0 hown hK hP 1 rfl rfl 2 (by decide) (hts (.fieldLink RX0 18 "CuckooShop$Clock" "swing" "I") (by decide +kernel)) (fun _ h9 => h9) rfl dX0_copyFrom_18 ?_
  refine va_put (D := D) (ci := 0) (v := .int (J 11)) (ty := .int) (C := RX0) (T := TX0) (N := 14) hx hb hts hiX0 tyX0 tyX0_ok nmX0 hown hK hP hD hS 0 rfl rfl 2 (by decide) (hts (.fieldLink RX0 18 "CuckooShop$Clock" "swing" "I") (by decide +kernel)) (fun _ h9 => h9) rfl (by decide +kernel) rfl rfl (Nat.le_of_ble_eq_true rfl) dX0_copyFrom_21 (fun H locs hP hD hS => ?_)
  have hP : va_P D vwCl [(h0, .inr (0, cu_ck (upd (upd (upd K 9 (J 9)) 10 (J 10)) 11 (J 11)))), (h1, .inr (0, cu_ck J))] H := hP
  have hD : va_D A [(h0, .inr (0, cu_ck (upd (upd (upd K 9 (J 9)) 10 (J 10)) 11 (J 11)))), (h1, .inr (0, cu_ck J))] := hD
  refine lv_aload_n hx hb dX0_copyFrom_24 rfl (lv_at hl 0 rfl) ?_
  refine lv_aload_n hx hb dX0_copyFrom_25 rfl (lv_at hl 1 rfl) ?_
  refine va_get (D := D) (ci := 0) (v := .int (J 2)) (C := RX0) (T := TX0) (N := 14) hx hb hts hiX0 hown hK hP 1 rfl rfl 3 (by decide) (hts (.fieldLink RX0 21 "CuckooShop$Clock" "chain" "I") (by decide +kernel)) (fun _ h9 => h9) rfl dX0_copyFrom_26 ?_
  refine va_put (D := D) (ci := 0) (v := .int (J 2)) (ty := .int) (C := RX0) (T := TX0) (N := 14) hx hb hts hiX0 tyX0 tyX0_ok nmX0 hown hK hP hD hS 0 rfl rfl 3 (by decide) (hts (.fieldLink RX0 21 "CuckooShop$Clock" "chain" "I") (by decide +kernel)) (fun _ h9 => h9) rfl (by decide +kernel) rfl rfl (Nat.le_of_ble_eq_true rfl) dX0_copyFrom_29 (fun H locs hP hD hS => ?_)
  have hP : va_P D vwCl [(h0, .inr (0, cu_ck (upd (upd (upd (upd K 9 (J 9)) 10 (J 10)) 11 (J 11)) 2 (J 2)))), (h1, .inr (0, cu_ck J))] H := hP
  have hD : va_D A [(h0, .inr (0, cu_ck (upd (upd (upd (upd K 9 (J 9)) 10 (J 10)) 11 (J 11)) 2 (J 2)))), (h1, .inr (0, cu_ck J))] := hD
  refine lv_aload_n hx hb dX0_copyFrom_32 rfl (lv_at hl 0 rfl) ?_
  refine lv_aload_n hx hb dX0_copyFrom_33 rfl (lv_at hl 1 rfl) ?_
  refine va_get (D := D) (ci := 0) (v := .int (J 3)) (C := RX0) (T := TX0) (N := 14) hx hb hts hiX0 hown hK hP 1 rfl rfl 4 (by decide) (hts (.fieldLink RX0 24 "CuckooShop$Clock" "oil" "I") (by decide +kernel)) (fun _ h9 => h9) rfl dX0_copyFrom_34 ?_
  refine va_put (D := D) (ci := 0) (v := .int (J 3)) (ty := .int) (C := RX0) (T := TX0) (N := 14) hx hb hts hiX0 tyX0 tyX0_ok nmX0 hown hK hP hD hS 0 rfl rfl 4 (by decide) (hts (.fieldLink RX0 24 "CuckooShop$Clock" "oil" "I") (by decide +kernel)) (fun _ h9 => h9) rfl (by decide +kernel) rfl rfl (Nat.le_of_ble_eq_true rfl) dX0_copyFrom_37 (fun H locs hP hD hS => ?_)
  have hP : va_P D vwCl [(h0, .inr (0, cu_ck (upd (upd (upd (upd (upd K 9 (J 9)) 10 (J 10)) 11 (J 11)) 2 (J 2)) 3 (J 3)))), (h1, .inr (0, cu_ck J))] H := hP
  have hD : va_D A [(h0, .inr (0, cu_ck (upd (upd (upd (upd (upd K 9 (J 9)) 10 (J 10)) 11 (J 11)) 2 (J 2)) 3 (J 3)))), (h1, .inr (0, cu_ck J))] := hD
  refine lv_aload_n hx hb dX0_copyFrom_40 rfl (lv_at hl 0 rfl) ?_
  refine lv_aload_n hx hb dX0_copyFrom_41 rfl (lv_at hl 1 rfl) ?_
  refine va_get (D := D) (ci := 0) (v := .int (J 4)) (C := RX0) (T := TX0) (N := 14) hx hb hts hiX0 hown hK hP 1 rfl rfl 5 (by decide) (hts (.fieldLink RX0 27 "CuckooShop$Clock" "bellows" "I") (by decide +kernel)) (fun _ h9 => h9) rfl dX0_copyFrom_42 ?_
  refine va_put (D := D) (ci := 0) (v := .int (J 4)) (ty := .int) (C := RX0) (T := TX0) (N := 14) hx hb hts hiX0 tyX0 tyX0_ok nmX0 hown hK hP hD hS 0 rfl rfl 5 (by decide) (hts (.fieldLink RX0 27 "CuckooShop$Clock" "bellows" "I") (by decide +kernel)) (fun _ h9 => h9) rfl (by decide +kernel) rfl rfl (Nat.le_of_ble_eq_true rfl) dX0_copyFrom_45 (fun H locs hP hD hS => ?_)
  have hP : va_P D vwCl [(h0, .inr (0, cu_ck (upd (upd (upd (upd (upd (upd K 9 (J 9)) 10 (J 10)) 11 (J 11)) 2 (J 2)) 3 (J 3)) 4 (J 4)))), (h1, .inr (0, cu_ck J))] H := hP
  have hD : va_D A [(h0, .inr (0, cu_ck (upd (upd (upd (upd (upd (upd K 9 (J 9)) 10 (J 10)) 11 (J 11)) 2 (J 2)) 3 (J 3)) 4 (J 4)))), (h1, .inr (0, cu_ck J))] := hD
  refine lv_aload_n hx hb dX0_copyFrom_48 rfl (lv_at hl 0 rfl) ?_
  refine lv_aload_n hx hb dX0_copyFrom_49 rfl (lv_at hl 1 rfl) ?_
  refine va_get (D := D) (ci := 0) (v := .int (J 5)) (C := RX0) (T := TX0) (N := 14) hx hb hts hiX0 hown hK hP 1 rfl rfl 6 (by decide) (hts (.fieldLink RX0 30 "CuckooShop$Clock" "goes" "Z") (by decide +kernel)) (fun _ h9 => h9) rfl dX0_copyFrom_50 ?_
  refine va_put (D := D) (ci := 0) (v := .int (J 5)) (ty := .boolean) (C := RX0) (T := TX0) (N := 14) hx hb hts hiX0 tyX0 tyX0_ok nmX0 hown hK hP hD hS 0 rfl rfl 6 (by decide) (hts (.fieldLink RX0 30 "CuckooShop$Clock" "goes" "Z") (by decide +kernel)) (fun _ h9 => h9) rfl (by decide +kernel) (cu_nb hJ) (cu_fb hJ) (Nat.le_of_ble_eq_true rfl) dX0_copyFrom_53 (fun H locs hP hD hS => ?_)
  have hP : va_P D vwCl [(h0, .inr (0, cu_ck (upd (upd (upd (upd (upd (upd (upd K 9 (J 9)) 10 (J 10)) 11 (J 11)) 2 (J 2)) 3 (J 3)) 4 (J 4)) 5 (J 5)))), (h1, .inr (0, cu_ck J))] H := hP
  have hD : va_D A [(h0, .inr (0, cu_ck (upd (upd (upd (upd (upd (upd (upd K 9 (J 9)) 10 (J 10)) 11 (J 11)) 2 (J 2)) 3 (J 3)) 4 (J 4)) 5 (J 5)))), (h1, .inr (0, cu_ck J))] := hD
  refine lv_aload_n hx hb dX0_copyFrom_56 rfl (lv_at hl 0 rfl) ?_
  refine lv_aload_n hx hb dX0_copyFrom_57 rfl (lv_at hl 1 rfl) ?_
  refine va_get (D := D) (ci := 0) (v := .int (J 0)) (C := RX0) (T := TX0) (N := 14) hx hb hts hiX0 hown hK hP 1 rfl rfl 7 (by decide) (hts (.fieldLink RX0 34 "CuckooShop$Clock" "shown" "I") (by decide +kernel)) (fun _ h9 => h9) rfl dX0_copyFrom_58 ?_
  refine va_put (D := D) (ci := 0) (v := .int (J 0)) (ty := .int) (C := RX0) (T := TX0) (N := 14) hx hb hts hiX0 tyX0 tyX0_ok nmX0 hown hK hP hD hS 0 rfl rfl 7 (by decide) (hts (.fieldLink RX0 34 "CuckooShop$Clock" "shown" "I") (by decide +kernel)) (fun _ h9 => h9) rfl (by decide +kernel) rfl rfl (Nat.le_of_ble_eq_true rfl) dX0_copyFrom_61 (fun H locs hP hD hS => ?_)
  have hP : va_P D vwCl [(h0, .inr (0, cu_ck (upd (upd (upd (upd (upd (upd (upd (upd K 9 (J 9)) 10 (J 10)) 11 (J 11)) 2 (J 2)) 3 (J 3)) 4 (J 4)) 5 (J 5)) 0 (J 0)))), (h1, .inr (0, cu_ck J))] H := hP
  have hD : va_D A [(h0, .inr (0, cu_ck (upd (upd (upd (upd (upd (upd (upd (upd K 9 (J 9)) 10 (J 10)) 11 (J 11)) 2 (J 2)) 3 (J 3)) 4 (J 4)) 5 (J 5)) 0 (J 0)))), (h1, .inr (0, cu_ck J))] := hD
  refine lv_aload_n hx hb dX0_copyFrom_64 rfl (lv_at hl 0 rfl) ?_
  refine lv_aload_n hx hb dX0_copyFrom_65 rfl (lv_at hl 1 rfl) ?_
  refine va_get (D := D) (ci := 0) (v := .int (J 1)) (C := RX0) (T := TX0) (N := 14) hx hb hts hiX0 hown hK hP 1 rfl rfl 8 (by decide) (hts (.fieldLink RX0 37 "CuckooShop$Clock" "rest" "I") (by decide +kernel)) (fun _ h9 => h9) rfl dX0_copyFrom_66 ?_
  refine va_put (D := D) (ci := 0) (v := .int (J 1)) (ty := .int) (C := RX0) (T := TX0) (N := 14) hx hb hts hiX0 tyX0 tyX0_ok nmX0 hown hK hP hD hS 0 rfl rfl 8 (by decide) (hts (.fieldLink RX0 37 "CuckooShop$Clock" "rest" "I") (by decide +kernel)) (fun _ h9 => h9) rfl (by decide +kernel) rfl rfl (Nat.le_of_ble_eq_true rfl) dX0_copyFrom_69 (fun H locs hP hD hS => ?_)
  have hP : va_P D vwCl [(h0, .inr (0, cu_ck (upd (upd (upd (upd (upd (upd (upd (upd (upd K 9 (J 9)) 10 (J 10)) 11 (J 11)) 2 (J 2)) 3 (J 3)) 4 (J 4)) 5 (J 5)) 0 (J 0)) 1 (J 1)))), (h1, .inr (0, cu_ck J))] H := hP
  have hD : va_D A [(h0, .inr (0, cu_ck (upd (upd (upd (upd (upd (upd (upd (upd (upd K 9 (J 9)) 10 (J 10)) 11 (J 11)) 2 (J 2)) 3 (J 3)) 4 (J 4)) 5 (J 5)) 0 (J 0)) 1 (J 1)))), (h1, .inr (0, cu_ck J))] := hD
  refine lv_aload_n hx hb dX0_copyFrom_72 rfl (lv_at hl 0 rfl) ?_
  refine lv_aload_n hx hb dX0_copyFrom_73 rfl (lv_at hl 1 rfl) ?_
  refine va_get (D := D) (ci := 0) (v := .int (J 12)) (C := RX0) (T := TX0) (N := 14) hx hb hts hiX0 hown hK hP 1 rfl rfl 9 (by decide) (hts (.fieldLink RX0 40 "CuckooShop$Clock" "shutFrom" "I") (by decide +kernel)) (fun _ h9 => h9) rfl dX0_copyFrom_74 ?_
  refine va_put (D := D) (ci := 0) (v := .int (J 12)) (ty := .int) (C := RX0) (T := TX0) (N := 14) hx hb hts hiX0 tyX0 tyX0_ok nmX0 hown hK hP hD hS 0 rfl rfl 9 (by decide) (hts (.fieldLink RX0 40 "CuckooShop$Clock" "shutFrom" "I") (by decide +kernel)) (fun _ h9 => h9) rfl (by decide +kernel) rfl rfl (Nat.le_of_ble_eq_true rfl) dX0_copyFrom_77 (fun H locs hP hD hS => ?_)
  have hP : va_P D vwCl [(h0, .inr (0, cu_ck (upd (upd (upd (upd (upd (upd (upd (upd (upd (upd K 9 (J 9)) 10 (J 10)) 11 (J 11)) 2 (J 2)) 3 (J 3)) 4 (J 4)) 5 (J 5)) 0 (J 0)) 1 (J 1)) 12 (J 12)))), (h1, .inr (0, cu_ck J))] H := hP
  have hD : va_D A [(h0, .inr (0, cu_ck (upd (upd (upd (upd (upd (upd (upd (upd (upd (upd K 9 (J 9)) 10 (J 10)) 11 (J 11)) 2 (J 2)) 3 (J 3)) 4 (J 4)) 5 (J 5)) 0 (J 0)) 1 (J 1)) 12 (J 12)))), (h1, .inr (0, cu_ck J))] := hD
  refine lv_aload_n hx hb dX0_copyFrom_80 rfl (lv_at hl 0 rfl) ?_
  refine lv_aload_n hx hb dX0_copyFrom_81 rfl (lv_at hl 1 rfl) ?_
  refine va_get (D := D) (ci := 0) (v := .int (J 13)) (C := RX0) (T := TX0) (N := 14) hx hb hts hiX0 hown hK hP 1 rfl rfl 10 (by decide) (hts (.fieldLink RX0 43 "CuckooShop$Clock" "shutTill" "I") (by decide +kernel)) (fun _ h9 => h9) rfl dX0_copyFrom_82 ?_
  refine va_put (D := D) (ci := 0) (v := .int (J 13)) (ty := .int) (C := RX0) (T := TX0) (N := 14) hx hb hts hiX0 tyX0 tyX0_ok nmX0 hown hK hP hD hS 0 rfl rfl 10 (by decide) (hts (.fieldLink RX0 43 "CuckooShop$Clock" "shutTill" "I") (by decide +kernel)) (fun _ h9 => h9) rfl (by decide +kernel) rfl rfl (Nat.le_of_ble_eq_true rfl) dX0_copyFrom_85 (fun H locs hP hD hS => ?_)
  have hP : va_P D vwCl [(h0, .inr (0, cu_ck (upd (upd (upd (upd (upd (upd (upd (upd (upd (upd (upd K 9 (J 9)) 10 (J 10)) 11 (J 11)) 2 (J 2)) 3 (J 3)) 4 (J 4)) 5 (J 5)) 0 (J 0)) 1 (J 1)) 12 (J 12)) 13 (J 13)))), (h1, .inr (0, cu_ck J))] H := hP
  have hD : va_D A [(h0, .inr (0, cu_ck (upd (upd (upd (upd (upd (upd (upd (upd (upd (upd (upd K 9 (J 9)) 10 (J 10)) 11 (J 11)) 2 (J 2)) 3 (J 3)) 4 (J 4)) 5 (J 5)) 0 (J 0)) 1 (J 1)) 12 (J 12)) 13 (J 13)))), (h1, .inr (0, cu_ck J))] := hD
  refine lv_aload_n hx hb dX0_copyFrom_88 rfl (lv_at hl 0 rfl) ?_
  refine lv_aload_n hx hb dX0_copyFrom_89 rfl (lv_at hl 1 rfl) ?_
  refine va_get (D := D) (ci := 0) (v := .int (J 6)) (C := RX0) (T := TX0) (N := 14) hx hb hts hiX0 hown hK hP 1 rfl rfl 11 (by decide) (hts (.fieldLink RX0 46 "CuckooShop$Clock" "calls" "I") (by decide +kernel)) (fun _ h9 => h9) rfl dX0_copyFrom_90 ?_
  refine va_put (D := D) (ci := 0) (v := .int (J 6)) (ty := .int) (C := RX0) (T := TX0) (N := 14) hx hb hts hiX0 tyX0 tyX0_ok nmX0 hown hK hP hD hS 0 rfl rfl 11 (by decide) (hts (.fieldLink RX0 46 "CuckooShop$Clock" "calls" "I") (by decide +kernel)) (fun _ h9 => h9) rfl (by decide +kernel) rfl rfl (Nat.le_of_ble_eq_true rfl) dX0_copyFrom_93 (fun H locs hP hD hS => ?_)
  have hP : va_P D vwCl [(h0, .inr (0, cu_ck (upd (upd (upd (upd (upd (upd (upd (upd (upd (upd (upd (upd K 9 (J 9)) 10 (J 10)) 11 (J 11)) 2 (J 2)) 3 (J 3)) 4 (J 4)) 5 (J 5)) 0 (J 0)) 1 (J 1)) 12 (J 12)) 13 (J 13)) 6 (J 6)))), (h1, .inr (0, cu_ck J))] H := hP
  have hD : va_D A [(h0, .inr (0, cu_ck (upd (upd (upd (upd (upd (upd (upd (upd (upd (upd (upd (upd K 9 (J 9)) 10 (J 10)) 11 (J 11)) 2 (J 2)) 3 (J 3)) 4 (J 4)) 5 (J 5)) 0 (J 0)) 1 (J 1)) 12 (J 12)) 13 (J 13)) 6 (J 6)))), (h1, .inr (0, cu_ck J))] := hD
  refine lv_aload_n hx hb dX0_copyFrom_96 rfl (lv_at hl 0 rfl) ?_
  refine lv_aload_n hx hb dX0_copyFrom_97 rfl (lv_at hl 1 rfl) ?_
  refine va_get (D := D) (ci := 0) (v := .int (J 7)) (C := RX0) (T := TX0) (N := 14) hx hb hts hiX0 hown hK hP 1 rfl rfl 12 (by decide) (hts (.fieldLink RX0 49 "CuckooShop$Clock" "missed" "I") (by decide +kernel)) (fun _ h9 => h9) rfl dX0_copyFrom_98 ?_
  refine va_put (D := D) (ci := 0) (v := .int (J 7)) (ty := .int) (C := RX0) (T := TX0) (N := 14) hx hb hts hiX0 tyX0 tyX0_ok nmX0 hown hK hP hD hS 0 rfl rfl 12 (by decide) (hts (.fieldLink RX0 49 "CuckooShop$Clock" "missed" "I") (by decide +kernel)) (fun _ h9 => h9) rfl (by decide +kernel) rfl rfl (Nat.le_of_ble_eq_true rfl) dX0_copyFrom_101 (fun H locs hP hD hS => ?_)
  have hP : va_P D vwCl [(h0, .inr (0, cu_ck (upd (upd (upd (upd (upd (upd (upd (upd (upd (upd (upd (upd (upd K 9 (J 9)) 10 (J 10)) 11 (J 11)) 2 (J 2)) 3 (J 3)) 4 (J 4)) 5 (J 5)) 0 (J 0)) 1 (J 1)) 12 (J 12)) 13 (J 13)) 6 (J 6)) 7 (J 7)))), (h1, .inr (0, cu_ck J))] H := hP
  have hD : va_D A [(h0, .inr (0, cu_ck (upd (upd (upd (upd (upd (upd (upd (upd (upd (upd (upd (upd (upd K 9 (J 9)) 10 (J 10)) 11 (J 11)) 2 (J 2)) 3 (J 3)) 4 (J 4)) 5 (J 5)) 0 (J 0)) 1 (J 1)) 12 (J 12)) 13 (J 13)) 6 (J 6)) 7 (J 7)))), (h1, .inr (0, cu_ck J))] := hD
  refine lv_aload_n hx hb dX0_copyFrom_104 rfl (lv_at hl 0 rfl) ?_
  refine lv_aload_n hx hb dX0_copyFrom_105 rfl (lv_at hl 1 rfl) ?_
  refine va_get (D := D) (ci := 0) (v := .int (J 8)) (C := RX0) (T := TX0) (N := 14) hx hb hts hiX0 hown hK hP 1 rfl rfl 13 (by decide) (hts (.fieldLink RX0 52 "CuckooShop$Clock" "latestCalls" "I") (by decide +kernel)) (fun _ h9 => h9) rfl dX0_copyFrom_106 ?_
  refine va_put (D := D) (ci := 0) (v := .int (J 8)) (ty := .int) (C := RX0) (T := TX0) (N := 14) hx hb hts hiX0 tyX0 tyX0_ok nmX0 hown hK hP hD hS 0 rfl rfl 13 (by decide) (hts (.fieldLink RX0 52 "CuckooShop$Clock" "latestCalls" "I") (by decide +kernel)) (fun _ h9 => h9) rfl (by decide +kernel) rfl rfl (Nat.le_of_ble_eq_true rfl) dX0_copyFrom_109 (fun H locs hP hD hS => ?_)
  have hP : va_P D vwCl [(h0, .inr (0, cu_ck (upd (upd (upd (upd (upd (upd (upd (upd (upd (upd (upd (upd (upd (upd K 9 (J 9)) 10 (J 10)) 11 (J 11)) 2 (J 2)) 3 (J 3)) 4 (J 4)) 5 (J 5)) 0 (J 0)) 1 (J 1)) 12 (J 12)) 13 (J 13)) 6 (J 6)) 7 (J 7)) 8 (J 8)))), (h1, .inr (0, cu_ck J))] H := hP
  have hD : va_D A [(h0, .inr (0, cu_ck (upd (upd (upd (upd (upd (upd (upd (upd (upd (upd (upd (upd (upd (upd K 9 (J 9)) 10 (J 10)) 11 (J 11)) 2 (J 2)) 3 (J 3)) 4 (J 4)) 5 (J 5)) 0 (J 0)) 1 (J 1)) 12 (J 12)) 13 (J 13)) 6 (J 6)) 7 (J 7)) 8 (J 8)))), (h1, .inr (0, cu_ck J))] := hD
  exact fin _ _ _ _ hP hS dX0_copyFrom_112
