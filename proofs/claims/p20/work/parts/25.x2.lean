/-! the law's clock: its methods -/
set_option maxHeartbeats 4000000 in
set_option maxRecDepth 100000 in
theorem m_X2_advance (l : Launch) (D : va_G) (C : Nat → ClassId) (h0 : Nat) (K : Nat → Int32) (v1 : Int32) (v2 : Int32) (hb0 : ¬ v2 = 0) : cu_I l D C yX2_advance wsX2_advance { frames := 0, cells := 0, slots := 0, locals := 0 } [.ref h0, .int v1, .int v2] (cu_wl h0 K) (cu_wl h0 K) (k_advW K v1 v2) 0 0 := by
  refine cu_openI (cc := cX2_advance) (maxL := 4) (ty := .int) (own := RX2) (by decide) rfl rfl (Nat.le_of_ble_eq_true rfl) ?_
  intro p e s m args below meth c A Z H0 ls e0 hx hb hml hts hown hnm hG hP hD hS hA hl fin
  have hK := hG.1
  have hl : lv_has ls 4 [(0, .ref h0), (1, .int v1), (2, .int v2)] := hl
  have hiX2 : ∀ w ∈ wsX20, w ∈ wsX2_advance := by decide +kernel
  refine lv_sipush (v := 900) hx hb dX2_advance_0 (by decide) ?_
  refine lv_iload_n hx hb dX2_advance_3 rfl (lv_at hl 1 rfl) ?_
  refine lv_imul hx hb dX2_advance_4 ?_
  refine lv_iload_n hx hb dX2_advance_5 rfl (lv_at hl 2 rfl) ?_
  refine lv_idiv hx hb dX2_advance_6 hb0 ?_
  refine lv_aload_n hx hb dX2_advance_7 rfl (lv_at hl 0 rfl) ?_
  refine va_get (D := D) (ci := 2) (v := .int (K 11)) (C := RX2) (T := TX2) (N := 14) hx hb hts hiX2 hown hK hP 0 rfl rfl 2 (by decide) (hts (.fieldLink RX2 33 "CuckooShopLaw$Clock" "swing" "I") (by decide +kernel)) (fun _ h9 => h9) rfl dX2_advance_8 ?_
  refine lv_iadd hx hb dX2_advance_11 ?_
  refine lv_istore_n (lv' := [(3, .int (((900 * v1) / v2) + (K 11))), (0, .ref h0), (1, .int v1), (2, .int v2)]) hx hb dX2_advance_12 rfl hl (by decide) rfl (fun ls hl => ?_)
  refine lv_aload_n hx hb dX2_advance_13 rfl (lv_at hl 1 rfl) ?_
  refine va_get (D := D) (ci := 2) (v := .int (K 3)) (C := RX2) (T := TX2) (N := 14) hx hb hts hiX2 hown hK hP 0 rfl rfl 6 (by decide) (hts (.fieldLink RX2 19 "CuckooShopLaw$Clock" "oil" "I") (by decide +kernel)) (fun _ h9 => h9) rfl dX2_advance_14 ?_
  refine lv_bipush (v := 19) hx hb dX2_advance_17 (by decide) ?_
  refine lv_icmp_le (tgt := 26) hx hb dX2_advance_19 (by decide) (fun c_19 => ?_) (fun c_19 => ?_)
  · refine lv_iload_n hx hb dX2_advance_26 rfl (lv_at hl 0 rfl) ?_
    refine lv_iload_n hx hb dX2_advance_27 rfl (lv_at hl 0 rfl) ?_
    refine lv_bipush (v := 10) hx hb dX2_advance_28 (by decide) ?_
    refine lv_idiv hx hb dX2_advance_30 (by decide) ?_
    refine lv_isub hx hb dX2_advance_31 ?_
    exact fin _ _ _ _ _ rfl (by rw [k_advL hb0]; simp only [if_pos c_19, reduceIte]) hP hS dX2_advance_32
  · refine lv_iload_n hx hb dX2_advance_22 rfl (lv_at hl 0 rfl) ?_
    refine lv_goto (tgt := 32) hx hb dX2_advance_23 (by decide) ?_
    exact fin _ _ _ _ _ rfl (by rw [k_advL hb0]; simp only [if_neg c_19, reduceIte]) hP hS dX2_advance_32

set_option maxHeartbeats 4000000 in
set_option maxRecDepth 100000 in
theorem m_X2_isShut (l : Launch) (D : va_G) (C : Nat → ClassId) (h0 : Nat) (K : Nat → Int32) (v1 : Int32) : cu_I l D C yX2_isShut wsX2_isShut { frames := 0, cells := 0, slots := 0, locals := 0 } [.ref h0, .int v1] (cu_wl h0 K) (cu_wl h0 K) (k_shutL K v1) 0 0 := by
  refine cu_openI (cc := cX2_isShut) (maxL := 2) (ty := .boolean) (own := RX2) (by decide) rfl rfl (Nat.le_of_ble_eq_true rfl) ?_
  intro p e s m args below meth c A Z H0 ls e0 hx hb hml hts hown hnm hG hP hD hS hA hl fin
  have hK := hG.1
  have hl : lv_has ls 2 [(0, .ref h0), (1, .int v1)] := hl
  have hiX2 : ∀ w ∈ wsX20, w ∈ wsX2_isShut := by decide +kernel
  refine lv_aload_n hx hb dX2_isShut_0 rfl (lv_at hl 0 rfl) ?_
  refine va_get (D := D) (ci := 2) (v := .int (K 12)) (C := RX2) (T := TX2) (N := 14) hx hb hts hiX2 hown hK hP 0 rfl rfl 12 (by decide) (hts (.fieldLink RX2 29 "CuckooShopLaw$Clock" "from" "I") (by decide +kernel)) (fun _ h9 => h9) rfl dX2_isShut_1 ?_
  refine lv_if_ge (tgt := 9) hx hb dX2_isShut_4 (by decide) (fun c_4 => ?_) (fun c_4 => ?_)
  · refine lv_aload_n hx hb dX2_isShut_9 rfl (lv_at hl 0 rfl) ?_
    refine va_get (D := D) (ci := 2) (v := .int (K 12)) (C := RX2) (T := TX2) (N := 14) hx hb hts hiX2 hown hK hP 0 rfl rfl 12 (by decide) (hts (.fieldLink RX2 29 "CuckooShopLaw$Clock" "from" "I") (by decide +kernel)) (fun _ h9 => h9) rfl dX2_isShut_10 ?_
    refine lv_aload_n hx hb dX2_isShut_13 rfl (lv_at hl 0 rfl) ?_
    refine va_get (D := D) (ci := 2) (v := .int (K 13)) (C := RX2) (T := TX2) (N := 14) hx hb hts hiX2 hown hK hP 0 rfl rfl 13 (by decide) (hts (.fieldLink RX2 42 "CuckooShopLaw$Clock" "till" "I") (by decide +kernel)) (fun _ h9 => h9) rfl dX2_isShut_14 ?_
    refine lv_icmp_ne (tgt := 22) hx hb dX2_isShut_17 (by decide) (fun c_17 => ?_) (fun c_17 => ?_)
    · refine lv_aload_n hx hb dX2_isShut_22 rfl (lv_at hl 0 rfl) ?_
      refine va_get (D := D) (ci := 2) (v := .int (K 12)) (C := RX2) (T := TX2) (N := 14) hx hb hts hiX2 hown hK hP 0 rfl rfl 12 (by decide) (hts (.fieldLink RX2 29 "CuckooShopLaw$Clock" "from" "I") (by decide +kernel)) (fun _ h9 => h9) rfl dX2_isShut_23 ?_
      refine lv_aload_n hx hb dX2_isShut_26 rfl (lv_at hl 0 rfl) ?_
      refine va_get (D := D) (ci := 2) (v := .int (K 13)) (C := RX2) (T := TX2) (N := 14) hx hb hts hiX2 hown hK hP 0 rfl rfl 13 (by decide) (hts (.fieldLink RX2 42 "CuckooShopLaw$Clock" "till" "I") (by decide +kernel)) (fun _ h9 => h9) rfl dX2_isShut_27 ?_
      refine lv_icmp_ge (tgt := 57) hx hb dX2_isShut_30 (by decide) (fun c_30 => ?_) (fun c_30 => ?_)
      · refine lv_iload_n hx hb dX2_isShut_57 rfl (lv_at hl 1 rfl) ?_
        refine lv_aload_n hx hb dX2_isShut_58 rfl (lv_at hl 0 rfl) ?_
        refine va_get (D := D) (ci := 2) (v := .int (K 12)) (C := RX2) (T := TX2) (N := 14) hx hb hts hiX2 hown hK hP 0 rfl rfl 12 (by decide) (hts (.fieldLink RX2 29 "CuckooShopLaw$Clock" "from" "I") (by decide +kernel)) (fun _ h9 => h9) rfl dX2_isShut_59 ?_
        refine lv_icmp_ge (tgt := 73) hx hb dX2_isShut_62 (by decide) (fun c_62 => ?_) (fun c_62 => ?_)
        · refine lv_iconst (v := 1) hx hb dX2_isShut_73 (by decide) ?_
          refine lv_goto (tgt := 78) hx hb dX2_isShut_74 (by decide) ?_
          exact fin _ _ _ _ _ (by decide) (by simp only [k_shutL, if_pos c_4, if_neg c_17, if_pos c_30, if_pos c_62, reduceIte]) hP hS dX2_isShut_78
        · refine lv_iload_n hx hb dX2_isShut_65 rfl (lv_at hl 1 rfl) ?_
          refine lv_aload_n hx hb dX2_isShut_66 rfl (lv_at hl 0 rfl) ?_
          refine va_get (D := D) (ci := 2) (v := .int (K 13)) (C := RX2) (T := TX2) (N := 14) hx hb hts hiX2 hown hK hP 0 rfl rfl 13 (by decide) (hts (.fieldLink RX2 42 "CuckooShopLaw$Clock" "till" "I") (by decide +kernel)) (fun _ h9 => h9) rfl dX2_isShut_67 ?_
          refine lv_icmp_ge (tgt := 77) hx hb dX2_isShut_70 (by decide) (fun c_70 => ?_) (fun c_70 => ?_)
          · refine lv_iconst (v := 0) hx hb dX2_isShut_77 (by decide) ?_
            exact fin _ _ _ _ _ (by decide) (by simp only [k_shutL, if_pos c_4, if_neg c_17, if_pos c_30, if_neg c_62, if_pos c_70, reduceIte]) hP hS dX2_isShut_78
          · refine lv_iconst (v := 1) hx hb dX2_isShut_73 (by decide) ?_
            refine lv_goto (tgt := 78) hx hb dX2_isShut_74 (by decide) ?_
            exact fin _ _ _ _ _ (by decide) (by simp only [k_shutL, if_pos c_4, if_neg c_17, if_pos c_30, if_neg c_62, if_neg c_70, reduceIte]) hP hS dX2_isShut_78
      · refine lv_iload_n hx hb dX2_isShut_33 rfl (lv_at hl 1 rfl) ?_
        refine lv_aload_n hx hb dX2_isShut_34 rfl (lv_at hl 0 rfl) ?_
        refine va_get (D := D) (ci := 2) (v := .int (K 12)) (C := RX2) (T := TX2) (N := 14) hx hb hts hiX2 hown hK hP 0 rfl rfl 12 (by decide) (hts (.fieldLink RX2 29 "CuckooShopLaw$Clock" "from" "I") (by decide +kernel)) (fun _ h9 => h9) rfl dX2_isShut_35 ?_
        refine lv_icmp_lt (tgt := 53) hx hb dX2_isShut_38 (by decide) (fun c_38 => ?_) (fun c_38 => ?_)
        · refine lv_iconst (v := 0) hx hb dX2_isShut_53 (by decide) ?_
          refine lv_goto (tgt := 78) hx hb dX2_isShut_54 (by decide) ?_
          exact fin _ _ _ _ _ (by decide) (by simp only [k_shutL, if_pos c_4, if_neg c_17, if_neg c_30, if_pos c_38, reduceIte]) hP hS dX2_isShut_78
        · refine lv_iload_n hx hb dX2_isShut_41 rfl (lv_at hl 1 rfl) ?_
          refine lv_aload_n hx hb dX2_isShut_42 rfl (lv_at hl 0 rfl) ?_
          refine va_get (D := D) (ci := 2) (v := .int (K 13)) (C := RX2) (T := TX2) (N := 14) hx hb hts hiX2 hown hK hP 0 rfl rfl 13 (by decide) (hts (.fieldLink RX2 42 "CuckooShopLaw$Clock" "till" "I") (by decide +kernel)) (fun _ h9 => h9) rfl dX2_isShut_43 ?_
          refine lv_icmp_ge (tgt := 53) hx hb dX2_isShut_46 (by decide) (fun c_46 => ?_) (fun c_46 => ?_)
          · refine lv_iconst (v := 0) hx hb dX2_isShut_53 (by decide) ?_
            refine lv_goto (tgt := 78) hx hb dX2_isShut_54 (by decide) ?_
            exact fin _ _ _ _ _ (by decide) (by simp only [k_shutL, if_pos c_4, if_neg c_17, if_neg c_30, if_neg c_38, if_pos c_46, reduceIte]) hP hS dX2_isShut_78
          · refine lv_iconst (v := 1) hx hb dX2_isShut_49 (by decide) ?_
            refine lv_goto (tgt := 78) hx hb dX2_isShut_50 (by decide) ?_
            exact fin _ _ _ _ _ (by decide) (by simp only [k_shutL, if_pos c_4, if_neg c_17, if_neg c_30, if_neg c_38, if_neg c_46, reduceIte]) hP hS dX2_isShut_78
    · refine lv_iconst (v := 1) hx hb dX2_isShut_20 (by decide) ?_
      exact fin _ _ _ _ _ (by decide) (by simp only [k_shutL, if_pos c_4, if_pos c_17, reduceIte]) hP hS dX2_isShut_21
  · refine lv_iconst (v := 0) hx hb dX2_isShut_7 (by decide) ?_
    exact fin _ _ _ _ _ (by decide) (by simp only [k_shutL, if_neg c_4, reduceIte]) hP hS dX2_isShut_8

set_option maxHeartbeats 4000000 in
set_option maxRecDepth 100000 in
theorem m_X2_off (l : Launch) (D : va_G) (C : Nat → ClassId) (h0 : Nat) (K : Nat → Int32) (v1 : Int32) (hok : k_okc K) (hm : 0 ≤ v1.toInt) : cu_I l D C yX2_off wsX2_off { frames := 0, cells := 0, slots := 0, locals := 0 } [.ref h0, .int v1] (cu_wl h0 K) (cu_wl h0 K) (k_off K v1) 0 0 := by
  refine cu_openI (cc := cX2_off) (maxL := 3) (ty := .int) (own := RX2) (by decide) rfl rfl (Nat.le_of_ble_eq_true rfl) ?_
  intro p e s m args below meth c A Z H0 ls e0 hx hb hml hts hown hnm hG hP hD hS hA hl fin
  have hK := hG.1
  have hl : lv_has ls 3 [(0, .ref h0), (1, .int v1)] := hl
  have hiX2 : ∀ w ∈ wsX20, w ∈ wsX2_off := by decide +kernel
  refine lv_aload_n hx hb dX2_off_0 rfl (lv_at hl 0 rfl) ?_
  refine va_get (D := D) (ci := 2) (v := .int (K 0)) (C := RX2) (T := TX2) (N := 14) hx hb hts hiX2 hown hK hP 0 rfl rfl 3 (by decide) (hts (.fieldLink RX2 36 "CuckooShopLaw$Clock" "shows" "I") (by decide +kernel)) (fun _ h9 => h9) rfl dX2_off_1 ?_
  refine lv_iload_n hx hb dX2_off_4 rfl (lv_at hl 1 rfl) ?_
  refine lv_sipush (v := 720) hx hb dX2_off_5 (by decide) ?_
  refine lv_irem hx hb dX2_off_8 (by decide) ?_
  refine lv_isub hx hb dX2_off_9 ?_
  refine lv_topi (fun b0 eb0 => ?_)
  refine lv_istore_n (lv' := [(2, .int b0), (0, .ref h0), (1, .int v1)]) hx hb dX2_off_10 rfl hl (by decide) rfl (fun ls hl => ?_)
  have hbd : -720 < b0.toInt ∧ b0.toInt < 720 := by rw [eb0]; exact k_off_bd hok hm
  refine lv_iload_n hx hb dX2_off_11 rfl (lv_at hl 0 rfl) ?_
  refine lv_sipush (v := -360) hx hb dX2_off_12 (by decide) ?_
  refine lv_icmp_ge (tgt := 27) hx hb dX2_off_15 (by decide) (fun c_15 => ?_) (fun c_15 => ?_)
  · refine lv_iload_n hx hb dX2_off_27 rfl (lv_at hl 0 rfl) ?_
    refine lv_sipush (v := 359) hx hb dX2_off_28 (by decide) ?_
    refine lv_icmp_le (tgt := 43) hx hb dX2_off_31 (by decide) (fun c_31 => ?_) (fun c_31 => ?_)
    · refine lv_iload_n hx hb dX2_off_43 rfl (lv_at hl 0 rfl) ?_
      subst eb0
      exact fin _ _ _ _ _ rfl (by rw [k_off_L hok hm rfl]; simp only [if_pos c_15, if_pos c_31, reduceIte]) hP hS dX2_off_44
    · refine lv_iincW (v := (b0 + (-720))) (lv' := [(2, .int (b0 + (-720))), (0, .ref h0), (1, .int v1)]) hx hb dX2_off_34 hl (k := 0) rfl rfl (by decide) rfl (fun ls hl => ?_)
      refine lv_goto (tgt := 27) hx hb dX2_off_40 (by decide) ?_
      refine lv_iload_n hx hb dX2_off_27 rfl (lv_at hl 0 rfl) ?_
      refine lv_sipush (v := 359) hx hb dX2_off_28 (by decide) ?_
      refine lv_icmp_le (tgt := 43) hx hb dX2_off_31 (by decide) (fun c_31_1 => ?_) (fun c_31_1 => absurd (k_off_b hbd c_31) c_31_1)
      refine lv_iload_n hx hb dX2_off_43 rfl (lv_at hl 0 rfl) ?_
      subst eb0
      exact fin _ _ _ _ _ rfl (by rw [k_off_L hok hm rfl]; simp only [if_pos c_15, if_neg c_31, if_pos c_31_1, reduceIte]) hP hS dX2_off_44
  · refine lv_iincW (v := (b0 + 720)) (lv' := [(2, .int (b0 + 720)), (0, .ref h0), (1, .int v1)]) hx hb dX2_off_18 hl (k := 0) rfl rfl (by decide) rfl (fun ls hl => ?_)
    refine lv_goto (tgt := 11) hx hb dX2_off_24 (by decide) ?_
    refine lv_iload_n hx hb dX2_off_11 rfl (lv_at hl 0 rfl) ?_
    refine lv_sipush (v := -360) hx hb dX2_off_12 (by decide) ?_
    refine lv_icmp_ge (tgt := 27) hx hb dX2_off_15 (by decide) (fun c_15_2 => ?_) (fun c_15_2 => absurd (k_off_a hbd c_15).1 c_15_2)
    refine lv_iload_n hx hb dX2_off_27 rfl (lv_at hl 0 rfl) ?_
    refine lv_sipush (v := 359) hx hb dX2_off_28 (by decide) ?_
    refine lv_icmp_le (tgt := 43) hx hb dX2_off_31 (by decide) (fun c_31 => ?_) (fun c_31 => absurd (k_off_a hbd c_15).2 c_31)
    refine lv_iload_n hx hb dX2_off_43 rfl (lv_at hl 0 rfl) ?_
    subst eb0
    exact fin _ _ _ _ _ rfl (by rw [k_off_L hok hm rfl]; simp only [if_neg c_15, if_pos c_15_2, if_pos c_31, reduceIte]) hP hS dX2_off_44

set_option maxHeartbeats 4000000 in
set_option maxRecDepth 100000 in
theorem m_X2_pass (l : Launch) (D : va_G) (C : Nat → ClassId) (h0 : Nat) (K : Nat → Int32) (v1 : Int32) (hok : k_ok K) : cu_V l D C yX2_pass wsX2_pass { frames := 1, cells := 0, slots := 0, locals := 23 } [.ref h0, .int v1] (cu_wl h0 K) (cu_wl h0 (k_min v1 K)) 0 0 := by
  refine cu_openV (cc := cX2_pass) (maxL := 4) (own := RX2) (by decide) rfl rfl (Nat.le_of_ble_eq_true rfl) ?_
  intro p e s m args below meth c A Z H0 ls e0 hx hb hml hts hown hnm hG hP hD hS hA hl fin
  have hK := hG.1
  have hl : lv_has ls 4 [(0, .ref h0), (1, .int v1)] := hl
  have hiX2 : ∀ w ∈ wsX20, w ∈ wsX2_pass := by decide +kernel
  refine lv_aload_n hx hb dX2_pass_0 rfl (lv_at hl 0 rfl) ?_
  refine lv_iconst (v := 0) hx hb dX2_pass_1 (by decide) ?_
  refine va_put (D := D) (ci := 2) (v := .int 0) (ty := .int) (C := RX2) (T := TX2) (N := 14) hx hb hts hiX2 tyX2 tyX2_ok nmX2 hown hK hP hD hS 0 rfl rfl 11 (by decide) (hts (.fieldLink RX2 45 "CuckooShopLaw$Clock" "latest" "I") (by decide +kernel)) (fun _ h9 => h9) rfl (by decide +kernel) rfl rfl (Nat.le_of_ble_eq_true rfl) dX2_pass_2 (fun H locs hP hD hS => ?_)
  have hP : va_P D vwCl (cu_wl h0 (upd K 8 0)) H := hP
  have hD : va_D A (cu_wl h0 (upd K 8 0)) := hD
  refine lv_aload_n hx hb dX2_pass_5 rfl (lv_at hl 0 rfl) ?_
  refine va_get (D := D) (ci := 2) (v := .int (K 5)) (C := RX2) (T := TX2) (N := 14) hx hb hts hiX2 hown hK hP 0 rfl rfl 8 (by decide) (hts (.fieldLink RX2 25 "CuckooShopLaw$Clock" "goes" "Z") (by decide +kernel)) (fun _ h9 => h9) rfl dX2_pass_6 ?_
  refine lv_if_ne (tgt := 13) hx hb dX2_pass_9 (by decide) (fun c_9 => ?_) (fun c_9 => ?_)
  · refine lv_aload_n hx hb dX2_pass_13 rfl (lv_at hl 0 rfl) ?_
    refine lv_dup hx hb dX2_pass_14 rfl ?_
    refine va_get (D := D) (ci := 2) (v := .int (K 1)) (C := RX2) (T := TX2) (N := 14) hx hb hts hiX2 hown hK hP 0 rfl rfl 4 (by decide) (hts (.fieldLink RX2 39 "CuckooShopLaw$Clock" "rest" "I") (by decide +kernel)) (fun _ h9 => h9) rfl dX2_pass_15 ?_
    refine lv_aload_n hx hb dX2_pass_18 rfl (lv_at hl 0 rfl) ?_
    refine lv_aload_n hx hb dX2_pass_19 rfl (lv_at hl 0 rfl) ?_
    refine va_get (D := D) (ci := 2) (v := .int (K 9)) (C := RX2) (T := TX2) (N := 14) hx hb hts hiX2 hown hK hP 0 rfl rfl 0 (by decide) (hts (.fieldLink RX2 7 "CuckooShopLaw$Clock" "a" "I") (by decide +kernel)) (fun _ h9 => h9) rfl dX2_pass_20 ?_
    refine lv_aload_n hx hb dX2_pass_23 rfl (lv_at hl 0 rfl) ?_
    refine va_get (D := D) (ci := 2) (v := .int (K 10)) (C := RX2) (T := TX2) (N := 14) hx hb hts hiX2 hown hK hP 0 rfl rfl 1 (by decide) (hts (.fieldLink RX2 13 "CuckooShopLaw$Clock" "b" "I") (by decide +kernel)) (fun _ h9 => h9) rfl dX2_pass_24 ?_
    have sp := cu_sp.all (W0 := (cu_wl h0 (upd K 8 0))) (W1 := (cu_wl h0 (upd K 8 0))) rfl
    refine cu_callI (va_runV (As := [.int (K 9), .int (K 10)]) (rest := [.int (K 1), .ref h0]) ⟨hx, hb, hml, hown, hts⟩ ((m_X2_advance l D C h0 (upd K 8 0) (K 9) (K 10) (k_b0 hok)) H.size) (cwV 2 hts gX2_pass_X2_advance rfl rfl rfl (by decide +kernel) ⟨Nat.le_of_ble_eq_true rfl, Nat.le_of_ble_eq_true rfl⟩) (cu_preV (ci := 2) sp hG hP hD rfl rfl) rfl rfl hl.1 rfl (lv_room (Nat.le_of_ble_eq_true rfl)) dX2_pass_27 ⟨Nat.le_of_ble_eq_true rfl, Nat.le_of_ble_eq_true rfl⟩) sp hP hD hS hA (fun H locs hP hD hS => ?_)
    have hP : va_P D vwCl (cu_wl h0 (upd K 8 0)) H := hP
    have hD : va_D A (cu_wl h0 (upd K 8 0)) := hD
    refine lv_iadd hx hb dX2_pass_30 ?_
    refine va_put (D := D) (ci := 2) (v := .int ((K 1) + (k_advW (upd K 8 0) (K 9) (K 10)))) (ty := .int) (C := RX2) (T := TX2) (N := 14) hx hb hts hiX2 tyX2 tyX2_ok nmX2 hown hK hP hD hS 0 rfl rfl 4 (by decide) (hts (.fieldLink RX2 39 "CuckooShopLaw$Clock" "rest" "I") (by decide +kernel)) (fun _ h9 => h9) rfl (by decide +kernel) rfl rfl (Nat.le_of_ble_eq_true rfl) dX2_pass_31 (fun H locs hP hD hS => ?_)
    have hP : va_P D vwCl (cu_wl h0 (upd (upd K 8 0) 1 ((K 1) + (k_advW (upd K 8 0) (K 9) (K 10))))) H := hP
    have hD : va_D A (cu_wl h0 (upd (upd K 8 0) 1 ((K 1) + (k_advW (upd K 8 0) (K 9) (K 10))))) := hD
    obtain ⟨q0, qj, qr, qc, qf⟩ := k_loop_0 (k_ok_u (k := 8) (v := 0) hok (by decide) (by decide))
    have loop : ∀ (j : Nat), ∀ (X : Nat → Int32), 0 ≤ (X 1).toInt → (X 1).toInt / 900 = (j : Int) → (X 1).toInt % 900 = (k_rest (upd K 8 0)).toInt → k_okc X → k_ticks j (upd X 1 (k_rest (upd K 8 0))) = k_turn (upd K 8 0) → ∀ (H : Heap) (locs : List Loc) (ls : Array Slot), va_P D vwCl (cu_wl h0 X) H → va_D A (cu_wl h0 X) → va_S A H0 H locs → lv_has ls 4 [(0, .ref h0), (1, .int v1)] → W p l e { frames := 1, cells := 0, slots := 0, locals := 23 } s m args below meth c H locs 0 0 Z (F0 m 34 ls []) := by
      intro j
      induction j with
      | zero =>
        intro X q0 qj qr qc qf H locs ls hP hD hS hl
        have eX := k_loop_z q0 qj qr qf
        have hmin := k_min_L (n := v1) hok c_9 eX
        refine lv_aload_n hx hb dX2_pass_34 rfl (lv_at hl 0 rfl) ?_
        refine va_get (D := D) (ci := 2) (v := .int (X 1)) (C := RX2) (T := TX2) (N := 14) hx hb hts hiX2 hown hK hP 0 rfl rfl 4 (by decide) (hts (.fieldLink RX2 39 "CuckooShopLaw$Clock" "rest" "I") (by decide +kernel)) (fun _ h9 => h9) rfl dX2_pass_35 ?_
        refine lv_sipush (v := 899) hx hb dX2_pass_38 (by decide) ?_
        refine lv_icmp_le (tgt := 205) hx hb dX2_pass_41 (by decide) (fun c_41 => ?_) (fun c_41 => absurd ((k_l899 q0 qj).mpr rfl) c_41)
        refine lv_aload_n hx hb dX2_pass_205 rfl (lv_at hl 0 rfl) ?_
        refine lv_dup hx hb dX2_pass_206 rfl ?_
        refine va_get (D := D) (ci := 2) (v := .int (X 2)) (C := RX2) (T := TX2) (N := 14) hx hb hts hiX2 hown hK hP 0 rfl rfl 5 (by decide) (hts (.fieldLink RX2 16 "CuckooShopLaw$Clock" "chain" "I") (by decide +kernel)) (fun _ h9 => h9) rfl dX2_pass_207 ?_
        refine lv_iconst (v := 1) hx hb dX2_pass_210 (by decide) ?_
        refine lv_isub hx hb dX2_pass_211 ?_
        refine va_put (D := D) (ci := 2) (v := .int ((X 2) - 1)) (ty := .int) (C := RX2) (T := TX2) (N := 14) hx hb hts hiX2 tyX2 tyX2_ok nmX2 hown hK hP hD hS 0 rfl rfl 5 (by decide) (hts (.fieldLink RX2 16 "CuckooShopLaw$Clock" "chain" "I") (by decide +kernel)) (fun _ h9 => h9) rfl (by decide +kernel) rfl rfl (Nat.le_of_ble_eq_true rfl) dX2_pass_212 (fun H locs hP hD hS => ?_)
        have hP : va_P D vwCl (cu_wl h0 (upd X 2 ((X 2) - 1))) H := hP
        have hD : va_D A (cu_wl h0 (upd X 2 ((X 2) - 1))) := hD
        refine lv_iload_n hx hb dX2_pass_215 rfl (lv_at hl 1 rfl) ?_
        refine lv_bipush (v := 10) hx hb dX2_pass_216 (by decide) ?_
        refine lv_irem hx hb dX2_pass_218 (by decide) ?_
        refine lv_if_ne (tgt := 239) hx hb dX2_pass_219 (by decide) (fun c_219 => ?_) (fun c_219 => ?_)
        · refine lv_aload_n hx hb dX2_pass_239 rfl (lv_at hl 0 rfl) ?_
          refine lv_aload_n hx hb dX2_pass_240 rfl (lv_at hl 0 rfl) ?_
          refine va_get (D := D) (ci := 2) (v := .int ((X 2) - 1)) (C := RX2) (T := TX2) (N := 14) hx hb hts hiX2 hown hK hP 0 rfl rfl 5 (by decide) (hts (.fieldLink RX2 16 "CuckooShopLaw$Clock" "chain" "I") (by decide +kernel)) (fun _ h9 => h9) rfl dX2_pass_241 ?_
          refine lv_if_le (tgt := 251) hx hb dX2_pass_244 (by decide) (fun c_244 => ?_) (fun c_244 => ?_)
          · refine lv_iconst (v := 0) hx hb dX2_pass_251 (by decide) ?_
            refine va_put (D := D) (ci := 2) (v := .int 0) (ty := .boolean) (C := RX2) (T := TX2) (N := 14) hx hb hts hiX2 tyX2 tyX2_ok nmX2 hown hK hP hD hS 0 rfl rfl 8 (by decide) (hts (.fieldLink RX2 25 "CuckooShopLaw$Clock" "goes" "Z") (by decide +kernel)) (fun _ h9 => h9) rfl (by decide +kernel) rfl rfl (Nat.le_of_ble_eq_true rfl) dX2_pass_252 (fun H locs hP hD hS => ?_)
            have hP : va_P D vwCl (cu_wl h0 (upd (upd X 2 ((X 2) - 1)) 5 0)) H := hP
            have hD : va_D A (cu_wl h0 (upd (upd X 2 ((X 2) - 1)) 5 0)) := hD
            exact fin _ _ _ _ (by simpa only [hmin, k_wearO, if_neg c_9, if_pos c_41, if_neg c_219, if_pos c_244, reduceIte] using hP) hS dX2_pass_255
          · refine lv_iconst (v := 1) hx hb dX2_pass_247 (by decide) ?_
            refine lv_goto (tgt := 252) hx hb dX2_pass_248 (by decide) ?_
            refine va_put (D := D) (ci := 2) (v := .int 1) (ty := .boolean) (C := RX2) (T := TX2) (N := 14) hx hb hts hiX2 tyX2 tyX2_ok nmX2 hown hK hP hD hS 0 rfl rfl 8 (by decide) (hts (.fieldLink RX2 25 "CuckooShopLaw$Clock" "goes" "Z") (by decide +kernel)) (fun _ h9 => h9) rfl (by decide +kernel) rfl rfl (Nat.le_of_ble_eq_true rfl) dX2_pass_252 (fun H locs hP hD hS => ?_)
            have hP : va_P D vwCl (cu_wl h0 (upd (upd X 2 ((X 2) - 1)) 5 1)) H := hP
            have hD : va_D A (cu_wl h0 (upd (upd X 2 ((X 2) - 1)) 5 1)) := hD
            exact fin _ _ _ _ (by simpa only [hmin, k_wearO, if_neg c_9, if_pos c_41, if_neg c_219, if_neg c_244, reduceIte] using hP) hS dX2_pass_255
        · refine lv_aload_n hx hb dX2_pass_222 rfl (lv_at hl 0 rfl) ?_
          refine va_get (D := D) (ci := 2) (v := .int (X 3)) (C := RX2) (T := TX2) (N := 14) hx hb hts hiX2 hown hK hP 0 rfl rfl 6 (by decide) (hts (.fieldLink RX2 19 "CuckooShopLaw$Clock" "oil" "I") (by decide +kernel)) (fun _ h9 => h9) rfl dX2_pass_223 ?_
          refine lv_if_le (tgt := 239) hx hb dX2_pass_226 (by decide) (fun c_226 => ?_) (fun c_226 => ?_)
          · refine lv_aload_n hx hb dX2_pass_239 rfl (lv_at hl 0 rfl) ?_
            refine lv_aload_n hx hb dX2_pass_240 rfl (lv_at hl 0 rfl) ?_
            refine va_get (D := D) (ci := 2) (v := .int ((X 2) - 1)) (C := RX2) (T := TX2) (N := 14) hx hb hts hiX2 hown hK hP 0 rfl rfl 5 (by decide) (hts (.fieldLink RX2 16 "CuckooShopLaw$Clock" "chain" "I") (by decide +kernel)) (fun _ h9 => h9) rfl dX2_pass_241 ?_
            refine lv_if_le (tgt := 251) hx hb dX2_pass_244 (by decide) (fun c_244 => ?_) (fun c_244 => ?_)
            · refine lv_iconst (v := 0) hx hb dX2_pass_251 (by decide) ?_
              refine va_put (D := D) (ci := 2) (v := .int 0) (ty := .boolean) (C := RX2) (T := TX2) (N := 14) hx hb hts hiX2 tyX2 tyX2_ok nmX2 hown hK hP hD hS 0 rfl rfl 8 (by decide) (hts (.fieldLink RX2 25 "CuckooShopLaw$Clock" "goes" "Z") (by decide +kernel)) (fun _ h9 => h9) rfl (by decide +kernel) rfl rfl (Nat.le_of_ble_eq_true rfl) dX2_pass_252 (fun H locs hP hD hS => ?_)
              have hP : va_P D vwCl (cu_wl h0 (upd (upd X 2 ((X 2) - 1)) 5 0)) H := hP
              have hD : va_D A (cu_wl h0 (upd (upd X 2 ((X 2) - 1)) 5 0)) := hD
              exact fin _ _ _ _ (by simpa only [hmin, k_wearO, if_neg c_9, if_pos c_41, if_pos c_219, if_pos c_226, if_pos c_244, reduceIte] using hP) hS dX2_pass_255
            · refine lv_iconst (v := 1) hx hb dX2_pass_247 (by decide) ?_
              refine lv_goto (tgt := 252) hx hb dX2_pass_248 (by decide) ?_
              refine va_put (D := D) (ci := 2) (v := .int 1) (ty := .boolean) (C := RX2) (T := TX2) (N := 14) hx hb hts hiX2 tyX2 tyX2_ok nmX2 hown hK hP hD hS 0 rfl rfl 8 (by decide) (hts (.fieldLink RX2 25 "CuckooShopLaw$Clock" "goes" "Z") (by decide +kernel)) (fun _ h9 => h9) rfl (by decide +kernel) rfl rfl (Nat.le_of_ble_eq_true rfl) dX2_pass_252 (fun H locs hP hD hS => ?_)
              have hP : va_P D vwCl (cu_wl h0 (upd (upd X 2 ((X 2) - 1)) 5 1)) H := hP
              have hD : va_D A (cu_wl h0 (upd (upd X 2 ((X 2) - 1)) 5 1)) := hD
              exact fin _ _ _ _ (by simpa only [hmin, k_wearO, if_neg c_9, if_pos c_41, if_pos c_219, if_pos c_226, if_neg c_244, reduceIte] using hP) hS dX2_pass_255
          · refine lv_aload_n hx hb dX2_pass_229 rfl (lv_at hl 0 rfl) ?_
            refine lv_dup hx hb dX2_pass_230 rfl ?_
            refine va_get (D := D) (ci := 2) (v := .int (X 3)) (C := RX2) (T := TX2) (N := 14) hx hb hts hiX2 hown hK hP 0 rfl rfl 6 (by decide) (hts (.fieldLink RX2 19 "CuckooShopLaw$Clock" "oil" "I") (by decide +kernel)) (fun _ h9 => h9) rfl dX2_pass_231 ?_
            refine lv_iconst (v := 1) hx hb dX2_pass_234 (by decide) ?_
            refine lv_isub hx hb dX2_pass_235 ?_
            refine va_put (D := D) (ci := 2) (v := .int ((X 3) - 1)) (ty := .int) (C := RX2) (T := TX2) (N := 14) hx hb hts hiX2 tyX2 tyX2_ok nmX2 hown hK hP hD hS 0 rfl rfl 6 (by decide) (hts (.fieldLink RX2 19 "CuckooShopLaw$Clock" "oil" "I") (by decide +kernel)) (fun _ h9 => h9) rfl (by decide +kernel) rfl rfl (Nat.le_of_ble_eq_true rfl) dX2_pass_236 (fun H locs hP hD hS => ?_)
            have hP : va_P D vwCl (cu_wl h0 (upd (upd X 2 ((X 2) - 1)) 3 ((X 3) - 1))) H := hP
            have hD : va_D A (cu_wl h0 (upd (upd X 2 ((X 2) - 1)) 3 ((X 3) - 1))) := hD
            refine lv_aload_n hx hb dX2_pass_239 rfl (lv_at hl 0 rfl) ?_
            refine lv_aload_n hx hb dX2_pass_240 rfl (lv_at hl 0 rfl) ?_
            refine va_get (D := D) (ci := 2) (v := .int ((X 2) - 1)) (C := RX2) (T := TX2) (N := 14) hx hb hts hiX2 hown hK hP 0 rfl rfl 5 (by decide) (hts (.fieldLink RX2 16 "CuckooShopLaw$Clock" "chain" "I") (by decide +kernel)) (fun _ h9 => h9) rfl dX2_pass_241 ?_
            refine lv_if_le (tgt := 251) hx hb dX2_pass_244 (by decide) (fun c_244 => ?_) (fun c_244 => ?_)
            · refine lv_iconst (v := 0) hx hb dX2_pass_251 (by decide) ?_
              refine va_put (D := D) (ci := 2) (v := .int 0) (ty := .boolean) (C := RX2) (T := TX2) (N := 14) hx hb hts hiX2 tyX2 tyX2_ok nmX2 hown hK hP hD hS 0 rfl rfl 8 (by decide) (hts (.fieldLink RX2 25 "CuckooShopLaw$Clock" "goes" "Z") (by decide +kernel)) (fun _ h9 => h9) rfl (by decide +kernel) rfl rfl (Nat.le_of_ble_eq_true rfl) dX2_pass_252 (fun H locs hP hD hS => ?_)
              have hP : va_P D vwCl (cu_wl h0 (upd (upd (upd X 2 ((X 2) - 1)) 3 ((X 3) - 1)) 5 0)) H := hP
              have hD : va_D A (cu_wl h0 (upd (upd (upd X 2 ((X 2) - 1)) 3 ((X 3) - 1)) 5 0)) := hD
              exact fin _ _ _ _ (by simpa only [hmin, k_wearO, if_neg c_9, if_pos c_41, if_pos c_219, if_neg c_226, if_pos c_244, reduceIte] using hP) hS dX2_pass_255
            · refine lv_iconst (v := 1) hx hb dX2_pass_247 (by decide) ?_
              refine lv_goto (tgt := 252) hx hb dX2_pass_248 (by decide) ?_
              refine va_put (D := D) (ci := 2) (v := .int 1) (ty := .boolean) (C := RX2) (T := TX2) (N := 14) hx hb hts hiX2 tyX2 tyX2_ok nmX2 hown hK hP hD hS 0 rfl rfl 8 (by decide) (hts (.fieldLink RX2 25 "CuckooShopLaw$Clock" "goes" "Z") (by decide +kernel)) (fun _ h9 => h9) rfl (by decide +kernel) rfl rfl (Nat.le_of_ble_eq_true rfl) dX2_pass_252 (fun H locs hP hD hS => ?_)
              have hP : va_P D vwCl (cu_wl h0 (upd (upd (upd X 2 ((X 2) - 1)) 3 ((X 3) - 1)) 5 1)) H := hP
              have hD : va_D A (cu_wl h0 (upd (upd (upd X 2 ((X 2) - 1)) 3 ((X 3) - 1)) 5 1)) := hD
              exact fin _ _ _ _ (by simpa only [hmin, k_wearO, if_neg c_9, if_pos c_41, if_pos c_219, if_neg c_226, if_neg c_244, reduceIte] using hP) hS dX2_pass_255
      | succ j ih =>
        intro X q0 qj qr qc qf H locs ls hP hD hS hl
        refine lv_aload_n hx hb dX2_pass_34 rfl (lv_at hl 0 rfl) ?_
        refine va_get (D := D) (ci := 2) (v := .int (X 1)) (C := RX2) (T := TX2) (N := 14) hx hb hts hiX2 hown hK hP 0 rfl rfl 4 (by decide) (hts (.fieldLink RX2 39 "CuckooShopLaw$Clock" "rest" "I") (by decide +kernel)) (fun _ h9 => h9) rfl dX2_pass_35 ?_
        refine lv_sipush (v := 899) hx hb dX2_pass_38 (by decide) ?_
        refine lv_icmp_le (tgt := 205) hx hb dX2_pass_41 (by decide) (fun c_41 => absurd ((k_l899 q0 qj).mp c_41) (by omega)) (fun c_41 => ?_)
        refine lv_aload_n hx hb dX2_pass_44 rfl (lv_at hl 0 rfl) ?_
        refine lv_dup hx hb dX2_pass_45 rfl ?_
        refine va_get (D := D) (ci := 2) (v := .int (X 1)) (C := RX2) (T := TX2) (N := 14) hx hb hts hiX2 hown hK hP 0 rfl rfl 4 (by decide) (hts (.fieldLink RX2 39 "CuckooShopLaw$Clock" "rest" "I") (by decide +kernel)) (fun _ h9 => h9) rfl dX2_pass_46 ?_
        refine lv_sipush (v := 900) hx hb dX2_pass_49 (by decide) ?_
        refine lv_isub hx hb dX2_pass_52 ?_
        refine va_put (D := D) (ci := 2) (v := .int ((X 1) - 900)) (ty := .int) (C := RX2) (T := TX2) (N := 14) hx hb hts hiX2 tyX2 tyX2_ok nmX2 hown hK hP hD hS 0 rfl rfl 4 (by decide) (hts (.fieldLink RX2 39 "CuckooShopLaw$Clock" "rest" "I") (by decide +kernel)) (fun _ h9 => h9) rfl (by decide +kernel) rfl rfl (Nat.le_of_ble_eq_true rfl) dX2_pass_53 (fun H locs hP hD hS => ?_)
        have hP : va_P D vwCl (cu_wl h0 (upd X 1 ((X 1) - 900))) H := hP
        have hD : va_D A (cu_wl h0 (upd X 1 ((X 1) - 900))) := hD
        refine lv_aload_n hx hb dX2_pass_56 rfl (lv_at hl 0 rfl) ?_
        have J1 : ∀ sh : Int32, sh = (if X 0 = 719 then 0 else X 0 + 1) → W p l e { frames := 1, cells := 0, slots := 0, locals := 23 } s m args below meth c H locs 0 0 Z (F0 m 77 ls [.int sh, .ref h0]) := by
          intro sh esh
          refine va_put (D := D) (ci := 2) (v := .int sh) (ty := .int) (C := RX2) (T := TX2) (N := 14) hx hb hts hiX2 tyX2 tyX2_ok nmX2 hown hK hP hD hS 0 rfl rfl 3 (by decide) (hts (.fieldLink RX2 36 "CuckooShopLaw$Clock" "shows" "I") (by decide +kernel)) (fun _ h9 => h9) rfl (by decide +kernel) rfl rfl (Nat.le_of_ble_eq_true rfl) dX2_pass_77 (fun H locs hP hD hS => ?_)
          have hP : va_P D vwCl (cu_wl h0 (upd (upd X 1 ((X 1) - 900)) 0 sh)) H := hP
          have hD : va_D A (cu_wl h0 (upd (upd X 1 ((X 1) - 900)) 0 sh)) := hD
          have J2 : ∀ w0 : Int32, w0 = k_dueL sh → W p l e { frames := 1, cells := 0, slots := 0, locals := 23 } s m args below meth c H locs 0 0 Z (F0 m 129 ls [.int w0]) := by
            intro w0 ew0
            refine lv_istore_n (lv' := [(2, .int w0), (0, .ref h0), (1, .int v1)]) hx hb dX2_pass_129 rfl hl (by decide) rfl (fun ls hl => ?_)
            refine lv_aload_n hx hb dX2_pass_130 rfl (lv_at hl 1 rfl) ?_
            refine lv_aload_n hx hb dX2_pass_131 rfl (lv_at hl 1 rfl) ?_
            refine va_get (D := D) (ci := 2) (v := .int sh) (C := RX2) (T := TX2) (N := 14) hx hb hts hiX2 hown hK hP 0 rfl rfl 3 (by decide) (hts (.fieldLink RX2 36 "CuckooShopLaw$Clock" "shows" "I") (by decide +kernel)) (fun _ h9 => h9) rfl dX2_pass_132 ?_
            have sp := cu_sp.all (W0 := (cu_wl h0 (upd (upd X 1 ((X 1) - 900)) 0 sh))) (W1 := (cu_wl h0 (upd (upd X 1 ((X 1) - 900)) 0 sh))) rfl
            refine cu_callI (va_runV (As := [.int sh]) (rest := []) ⟨hx, hb, hml, hown, hts⟩ ((m_X2_isShut l D C h0 (upd (upd X 1 ((X 1) - 900)) 0 sh) sh) H.size) (cwV 1 hts gX2_pass_X2_isShut rfl rfl rfl (by decide +kernel) ⟨Nat.le_of_ble_eq_true rfl, Nat.le_of_ble_eq_true rfl⟩) (cu_preV (ci := 2) sp hG hP hD rfl rfl) rfl rfl hl.1 rfl (lv_room (Nat.le_of_ble_eq_true rfl)) dX2_pass_135 ⟨Nat.le_of_ble_eq_true rfl, Nat.le_of_ble_eq_true rfl⟩) sp hP hD hS hA (fun H locs hP hD hS => ?_)
            have hP : va_P D vwCl (cu_wl h0 (upd (upd X 1 ((X 1) - 900)) 0 sh)) H := hP
            have hD : va_D A (cu_wl h0 (upd (upd X 1 ((X 1) - 900)) 0 sh)) := hD
            refine lv_if_eq (tgt := 143) hx hb dX2_pass_138 (by decide) (fun c_138 => ?_) (fun c_138 => ?_)
            · have J3 : ∀ d : Int32, d = (if X 4 ≤ w0 then X 4 else w0) → W p l e { frames := 1, cells := 0, slots := 0, locals := 23 } s m args below meth c H locs 0 0 Z (F0 m 159 ls [.int d]) := by
                intro d ed
                refine lv_istore_n (lv' := [(3, .int d), (2, .int w0), (0, .ref h0), (1, .int v1)]) hx hb dX2_pass_159 rfl hl (by decide) rfl (fun ls hl => ?_)
                refine lv_aload_n hx hb dX2_pass_160 rfl (lv_at hl 2 rfl) ?_
                refine lv_dup hx hb dX2_pass_161 rfl ?_
                refine va_get (D := D) (ci := 2) (v := .int (X 4)) (C := RX2) (T := TX2) (N := 14) hx hb hts hiX2 hown hK hP 0 rfl rfl 7 (by decide) (hts (.fieldLink RX2 22 "CuckooShopLaw$Clock" "bellows" "I") (by decide +kernel)) (fun _ h9 => h9) rfl dX2_pass_162 ?_
                refine lv_iload_n hx hb dX2_pass_165 rfl (lv_at hl 0 rfl) ?_
                refine lv_isub hx hb dX2_pass_166 ?_
                refine va_put (D := D) (ci := 2) (v := .int ((X 4) - d)) (ty := .int) (C := RX2) (T := TX2) (N := 14) hx hb hts hiX2 tyX2 tyX2_ok nmX2 hown hK hP hD hS 0 rfl rfl 7 (by decide) (hts (.fieldLink RX2 22 "CuckooShopLaw$Clock" "bellows" "I") (by decide +kernel)) (fun _ h9 => h9) rfl (by decide +kernel) rfl rfl (Nat.le_of_ble_eq_true rfl) dX2_pass_167 (fun H locs hP hD hS => ?_)
                have hP : va_P D vwCl (cu_wl h0 (upd (upd (upd X 1 ((X 1) - 900)) 0 sh) 4 ((X 4) - d))) H := hP
                have hD : va_D A (cu_wl h0 (upd (upd (upd X 1 ((X 1) - 900)) 0 sh) 4 ((X 4) - d))) := hD
                refine lv_aload_n hx hb dX2_pass_170 rfl (lv_at hl 2 rfl) ?_
                refine lv_dup hx hb dX2_pass_171 rfl ?_
                refine va_get (D := D) (ci := 2) (v := .int (X 6)) (C := RX2) (T := TX2) (N := 14) hx hb hts hiX2 hown hK hP 0 rfl rfl 9 (by decide) (hts (.fieldLink RX2 56 "CuckooShopLaw$Clock" "calls" "I") (by decide +kernel)) (fun _ h9 => h9) rfl dX2_pass_172 ?_
                refine lv_iload_n hx hb dX2_pass_175 rfl (lv_at hl 0 rfl) ?_
                refine lv_iadd hx hb dX2_pass_176 ?_
                refine va_put (D := D) (ci := 2) (v := .int ((X 6) + d)) (ty := .int) (C := RX2) (T := TX2) (N := 14) hx hb hts hiX2 tyX2 tyX2_ok nmX2 hown hK hP hD hS 0 rfl rfl 9 (by decide) (hts (.fieldLink RX2 56 "CuckooShopLaw$Clock" "calls" "I") (by decide +kernel)) (fun _ h9 => h9) rfl (by decide +kernel) rfl rfl (Nat.le_of_ble_eq_true rfl) dX2_pass_177 (fun H locs hP hD hS => ?_)
                have hP : va_P D vwCl (cu_wl h0 (upd (upd (upd (upd X 1 ((X 1) - 900)) 0 sh) 4 ((X 4) - d)) 6 ((X 6) + d))) H := hP
                have hD : va_D A (cu_wl h0 (upd (upd (upd (upd X 1 ((X 1) - 900)) 0 sh) 4 ((X 4) - d)) 6 ((X 6) + d))) := hD
                refine lv_aload_n hx hb dX2_pass_180 rfl (lv_at hl 2 rfl) ?_
                refine lv_dup hx hb dX2_pass_181 rfl ?_
                refine va_get (D := D) (ci := 2) (v := .int (X 8)) (C := RX2) (T := TX2) (N := 14) hx hb hts hiX2 hown hK hP 0 rfl rfl 11 (by decide) (hts (.fieldLink RX2 45 "CuckooShopLaw$Clock" "latest" "I") (by decide +kernel)) (fun _ h9 => h9) rfl dX2_pass_182 ?_
                refine lv_iload_n hx hb dX2_pass_185 rfl (lv_at hl 0 rfl) ?_
                refine lv_iadd hx hb dX2_pass_186 ?_
                refine va_put (D := D) (ci := 2) (v := .int ((X 8) + d)) (ty := .int) (C := RX2) (T := TX2) (N := 14) hx hb hts hiX2 tyX2 tyX2_ok nmX2 hown hK hP hD hS 0 rfl rfl 11 (by decide) (hts (.fieldLink RX2 45 "CuckooShopLaw$Clock" "latest" "I") (by decide +kernel)) (fun _ h9 => h9) rfl (by decide +kernel) rfl rfl (Nat.le_of_ble_eq_true rfl) dX2_pass_187 (fun H locs hP hD hS => ?_)
                have hP : va_P D vwCl (cu_wl h0 (upd (upd (upd (upd (upd X 1 ((X 1) - 900)) 0 sh) 4 ((X 4) - d)) 6 ((X 6) + d)) 8 ((X 8) + d))) H := hP
                have hD : va_D A (cu_wl h0 (upd (upd (upd (upd (upd X 1 ((X 1) - 900)) 0 sh) 4 ((X 4) - d)) 6 ((X 6) + d)) 8 ((X 8) + d))) := hD
                refine lv_aload_n hx hb dX2_pass_190 rfl (lv_at hl 2 rfl) ?_
                refine lv_dup hx hb dX2_pass_191 rfl ?_
                refine va_get (D := D) (ci := 2) (v := .int (X 7)) (C := RX2) (T := TX2) (N := 14) hx hb hts hiX2 hown hK hP 0 rfl rfl 10 (by decide) (hts (.fieldLink RX2 59 "CuckooShopLaw$Clock" "missed" "I") (by decide +kernel)) (fun _ h9 => h9) rfl dX2_pass_192 ?_
                refine lv_iload_n hx hb dX2_pass_195 rfl (lv_at hl 1 rfl) ?_
                refine lv_iload_n hx hb dX2_pass_196 rfl (lv_at hl 0 rfl) ?_
                refine lv_isub hx hb dX2_pass_197 ?_
                refine lv_iadd hx hb dX2_pass_198 ?_
                refine va_put (D := D) (ci := 2) (v := .int ((X 7) + (w0 - d))) (ty := .int) (C := RX2) (T := TX2) (N := 14) hx hb hts hiX2 tyX2 tyX2_ok nmX2 hown hK hP hD hS 0 rfl rfl 10 (by decide) (hts (.fieldLink RX2 59 "CuckooShopLaw$Clock" "missed" "I") (by decide +kernel)) (fun _ h9 => h9) rfl (by decide +kernel) rfl rfl (Nat.le_of_ble_eq_true rfl) dX2_pass_199 (fun H locs hP hD hS => ?_)
                have hP : va_P D vwCl (cu_wl h0 (upd (upd (upd (upd (upd (upd X 1 ((X 1) - 900)) 0 sh) 4 ((X 4) - d)) 6 ((X 6) + d)) 8 ((X 8) + d)) 7 ((X 7) + (w0 - d)))) H := hP
                have hD : va_D A (cu_wl h0 (upd (upd (upd (upd (upd (upd X 1 ((X 1) - 900)) 0 sh) 4 ((X 4) - d)) 6 ((X 6) + d)) 8 ((X 8) + d)) 7 ((X 7) + (w0 - d)))) := hD
                refine lv_goto (tgt := 34) hx hb dX2_pass_202 (by decide) ?_
                have eB := k_body_L qc esh ew0 (Or.inl ⟨c_138, rfl⟩) ed
                rw [eB] at hP hD
                obtain ⟨p0, pj, pr, pc9, pf9⟩ := k_loop_s q0 qj qr qc qf
                exact ih _ p0 pj pr pc9 pf9 _ _ _ hP hD hS (lv_sub hl [2, 3] rfl)
              refine lv_iload_n hx hb dX2_pass_143 rfl (lv_at hl 0 rfl) ?_
              refine lv_aload_n hx hb dX2_pass_144 rfl (lv_at hl 1 rfl) ?_
              refine va_get (D := D) (ci := 2) (v := .int (X 4)) (C := RX2) (T := TX2) (N := 14) hx hb hts hiX2 hown hK hP 0 rfl rfl 7 (by decide) (hts (.fieldLink RX2 22 "CuckooShopLaw$Clock" "bellows" "I") (by decide +kernel)) (fun _ h9 => h9) rfl dX2_pass_145 ?_
              refine lv_icmp_ge (tgt := 155) hx hb dX2_pass_148 (by decide) (fun c_148 => ?_) (fun c_148 => ?_)
              · refine lv_aload_n hx hb dX2_pass_155 rfl (lv_at hl 1 rfl) ?_
                refine va_get (D := D) (ci := 2) (v := .int (X 4)) (C := RX2) (T := TX2) (N := 14) hx hb hts hiX2 hown hK hP 0 rfl rfl 7 (by decide) (hts (.fieldLink RX2 22 "CuckooShopLaw$Clock" "bellows" "I") (by decide +kernel)) (fun _ h9 => h9) rfl dX2_pass_156 ?_
                exact J3 _ (by simp only [k_dueL, if_neg c_9, if_neg c_41, if_pos c_138, if_pos c_148, reduceIte])
              · refine lv_iload_n hx hb dX2_pass_151 rfl (lv_at hl 0 rfl) ?_
                refine lv_goto (tgt := 159) hx hb dX2_pass_152 (by decide) ?_
                exact J3 _ (by simp only [k_dueL, if_neg c_9, if_neg c_41, if_pos c_138, if_neg c_148, reduceIte])
            · refine lv_iconst (v := 0) hx hb dX2_pass_141 (by decide) ?_
              refine lv_istore_n (lv' := [(2, .int 0), (0, .ref h0), (1, .int v1)]) hx hb dX2_pass_142 rfl hl (by decide) rfl (fun ls hl => ?_)
              have J4 : ∀ d : Int32, d = (if X 4 ≤ 0 then X 4 else 0) → W p l e { frames := 1, cells := 0, slots := 0, locals := 23 } s m args below meth c H locs 0 0 Z (F0 m 159 ls [.int d]) := by
                intro d ed
                refine lv_istore_n (lv' := [(3, .int d), (2, .int 0), (0, .ref h0), (1, .int v1)]) hx hb dX2_pass_159 rfl hl (by decide) rfl (fun ls hl => ?_)
                refine lv_aload_n hx hb dX2_pass_160 rfl (lv_at hl 2 rfl) ?_
                refine lv_dup hx hb dX2_pass_161 rfl ?_
                refine va_get (D := D) (ci := 2) (v := .int (X 4)) (C := RX2) (T := TX2) (N := 14) hx hb hts hiX2 hown hK hP 0 rfl rfl 7 (by decide) (hts (.fieldLink RX2 22 "CuckooShopLaw$Clock" "bellows" "I") (by decide +kernel)) (fun _ h9 => h9) rfl dX2_pass_162 ?_
                refine lv_iload_n hx hb dX2_pass_165 rfl (lv_at hl 0 rfl) ?_
                refine lv_isub hx hb dX2_pass_166 ?_
                refine va_put (D := D) (ci := 2) (v := .int ((X 4) - d)) (ty := .int) (C := RX2) (T := TX2) (N := 14) hx hb hts hiX2 tyX2 tyX2_ok nmX2 hown hK hP hD hS 0 rfl rfl 7 (by decide) (hts (.fieldLink RX2 22 "CuckooShopLaw$Clock" "bellows" "I") (by decide +kernel)) (fun _ h9 => h9) rfl (by decide +kernel) rfl rfl (Nat.le_of_ble_eq_true rfl) dX2_pass_167 (fun H locs hP hD hS => ?_)
                have hP : va_P D vwCl (cu_wl h0 (upd (upd (upd X 1 ((X 1) - 900)) 0 sh) 4 ((X 4) - d))) H := hP
                have hD : va_D A (cu_wl h0 (upd (upd (upd X 1 ((X 1) - 900)) 0 sh) 4 ((X 4) - d))) := hD
                refine lv_aload_n hx hb dX2_pass_170 rfl (lv_at hl 2 rfl) ?_
                refine lv_dup hx hb dX2_pass_171 rfl ?_
                refine va_get (D := D) (ci := 2) (v := .int (X 6)) (C := RX2) (T := TX2) (N := 14) hx hb hts hiX2 hown hK hP 0 rfl rfl 9 (by decide) (hts (.fieldLink RX2 56 "CuckooShopLaw$Clock" "calls" "I") (by decide +kernel)) (fun _ h9 => h9) rfl dX2_pass_172 ?_
                refine lv_iload_n hx hb dX2_pass_175 rfl (lv_at hl 0 rfl) ?_
                refine lv_iadd hx hb dX2_pass_176 ?_
                refine va_put (D := D) (ci := 2) (v := .int ((X 6) + d)) (ty := .int) (C := RX2) (T := TX2) (N := 14) hx hb hts hiX2 tyX2 tyX2_ok nmX2 hown hK hP hD hS 0 rfl rfl 9 (by decide) (hts (.fieldLink RX2 56 "CuckooShopLaw$Clock" "calls" "I") (by decide +kernel)) (fun _ h9 => h9) rfl (by decide +kernel) rfl rfl (Nat.le_of_ble_eq_true rfl) dX2_pass_177 (fun H locs hP hD hS => ?_)
                have hP : va_P D vwCl (cu_wl h0 (upd (upd (upd (upd X 1 ((X 1) - 900)) 0 sh) 4 ((X 4) - d)) 6 ((X 6) + d))) H := hP
                have hD : va_D A (cu_wl h0 (upd (upd (upd (upd X 1 ((X 1) - 900)) 0 sh) 4 ((X 4) - d)) 6 ((X 6) + d))) := hD
                refine lv_aload_n hx hb dX2_pass_180 rfl (lv_at hl 2 rfl) ?_
                refine lv_dup hx hb dX2_pass_181 rfl ?_
                refine va_get (D := D) (ci := 2) (v := .int (X 8)) (C := RX2) (T := TX2) (N := 14) hx hb hts hiX2 hown hK hP 0 rfl rfl 11 (by decide) (hts (.fieldLink RX2 45 "CuckooShopLaw$Clock" "latest" "I") (by decide +kernel)) (fun _ h9 => h9) rfl dX2_pass_182 ?_
                refine lv_iload_n hx hb dX2_pass_185 rfl (lv_at hl 0 rfl) ?_
                refine lv_iadd hx hb dX2_pass_186 ?_
                refine va_put (D := D) (ci := 2) (v := .int ((X 8) + d)) (ty := .int) (C := RX2) (T := TX2) (N := 14) hx hb hts hiX2 tyX2 tyX2_ok nmX2 hown hK hP hD hS 0 rfl rfl 11 (by decide) (hts (.fieldLink RX2 45 "CuckooShopLaw$Clock" "latest" "I") (by decide +kernel)) (fun _ h9 => h9) rfl (by decide +kernel) rfl rfl (Nat.le_of_ble_eq_true rfl) dX2_pass_187 (fun H locs hP hD hS => ?_)
                have hP : va_P D vwCl (cu_wl h0 (upd (upd (upd (upd (upd X 1 ((X 1) - 900)) 0 sh) 4 ((X 4) - d)) 6 ((X 6) + d)) 8 ((X 8) + d))) H := hP
                have hD : va_D A (cu_wl h0 (upd (upd (upd (upd (upd X 1 ((X 1) - 900)) 0 sh) 4 ((X 4) - d)) 6 ((X 6) + d)) 8 ((X 8) + d))) := hD
                refine lv_aload_n hx hb dX2_pass_190 rfl (lv_at hl 2 rfl) ?_
                refine lv_dup hx hb dX2_pass_191 rfl ?_
                refine va_get (D := D) (ci := 2) (v := .int (X 7)) (C := RX2) (T := TX2) (N := 14) hx hb hts hiX2 hown hK hP 0 rfl rfl 10 (by decide) (hts (.fieldLink RX2 59 "CuckooShopLaw$Clock" "missed" "I") (by decide +kernel)) (fun _ h9 => h9) rfl dX2_pass_192 ?_
                refine lv_iload_n hx hb dX2_pass_195 rfl (lv_at hl 1 rfl) ?_
                refine lv_iload_n hx hb dX2_pass_196 rfl (lv_at hl 0 rfl) ?_
                refine lv_isub hx hb dX2_pass_197 ?_
                refine lv_iadd hx hb dX2_pass_198 ?_
                refine va_put (D := D) (ci := 2) (v := .int ((X 7) + (0 - d))) (ty := .int) (C := RX2) (T := TX2) (N := 14) hx hb hts hiX2 tyX2 tyX2_ok nmX2 hown hK hP hD hS 0 rfl rfl 10 (by decide) (hts (.fieldLink RX2 59 "CuckooShopLaw$Clock" "missed" "I") (by decide +kernel)) (fun _ h9 => h9) rfl (by decide +kernel) rfl rfl (Nat.le_of_ble_eq_true rfl) dX2_pass_199 (fun H locs hP hD hS => ?_)
                have hP : va_P D vwCl (cu_wl h0 (upd (upd (upd (upd (upd (upd X 1 ((X 1) - 900)) 0 sh) 4 ((X 4) - d)) 6 ((X 6) + d)) 8 ((X 8) + d)) 7 ((X 7) + (0 - d)))) H := hP
                have hD : va_D A (cu_wl h0 (upd (upd (upd (upd (upd (upd X 1 ((X 1) - 900)) 0 sh) 4 ((X 4) - d)) 6 ((X 6) + d)) 8 ((X 8) + d)) 7 ((X 7) + (0 - d)))) := hD
                refine lv_goto (tgt := 34) hx hb dX2_pass_202 (by decide) ?_
                have eB := k_body_L qc esh ew0 (Or.inr ⟨c_138, rfl⟩) ed
                rw [eB] at hP hD
                obtain ⟨p0, pj, pr, pc9, pf9⟩ := k_loop_s q0 qj qr qc qf
                exact ih _ p0 pj pr pc9 pf9 _ _ _ hP hD hS (lv_sub hl [2, 3] rfl)
              refine lv_iload_n hx hb dX2_pass_143 rfl (lv_at hl 0 rfl) ?_
              refine lv_aload_n hx hb dX2_pass_144 rfl (lv_at hl 1 rfl) ?_
              refine va_get (D := D) (ci := 2) (v := .int (X 4)) (C := RX2) (T := TX2) (N := 14) hx hb hts hiX2 hown hK hP 0 rfl rfl 7 (by decide) (hts (.fieldLink RX2 22 "CuckooShopLaw$Clock" "bellows" "I") (by decide +kernel)) (fun _ h9 => h9) rfl dX2_pass_145 ?_
              refine lv_icmp_ge (tgt := 155) hx hb dX2_pass_148 (by decide) (fun c_148 => ?_) (fun c_148 => ?_)
              · refine lv_aload_n hx hb dX2_pass_155 rfl (lv_at hl 1 rfl) ?_
                refine va_get (D := D) (ci := 2) (v := .int (X 4)) (C := RX2) (T := TX2) (N := 14) hx hb hts hiX2 hown hK hP 0 rfl rfl 7 (by decide) (hts (.fieldLink RX2 22 "CuckooShopLaw$Clock" "bellows" "I") (by decide +kernel)) (fun _ h9 => h9) rfl dX2_pass_156 ?_
                exact J4 _ (by simp only [k_dueL, if_neg c_9, if_neg c_41, if_neg c_138, if_pos c_148, reduceIte])
              · refine lv_iload_n hx hb dX2_pass_151 rfl (lv_at hl 0 rfl) ?_
                refine lv_goto (tgt := 159) hx hb dX2_pass_152 (by decide) ?_
                exact J4 _ (by simp only [k_dueL, if_neg c_9, if_neg c_41, if_neg c_138, if_neg c_148, reduceIte])
          refine lv_aload_n hx hb dX2_pass_80 rfl (lv_at hl 0 rfl) ?_
          refine va_get (D := D) (ci := 2) (v := .int sh) (C := RX2) (T := TX2) (N := 14) hx hb hts hiX2 hown hK hP 0 rfl rfl 3 (by decide) (hts (.fieldLink RX2 36 "CuckooShopLaw$Clock" "shows" "I") (by decide +kernel)) (fun _ h9 => h9) rfl dX2_pass_81 ?_
          refine lv_bipush (v := 60) hx hb dX2_pass_84 (by decide) ?_
          refine lv_irem hx hb dX2_pass_86 (by decide) ?_
          refine lv_if_ne (tgt := 112) hx hb dX2_pass_87 (by decide) (fun c_87 => ?_) (fun c_87 => ?_)
          · refine lv_aload_n hx hb dX2_pass_112 rfl (lv_at hl 0 rfl) ?_
            refine va_get (D := D) (ci := 2) (v := .int sh) (C := RX2) (T := TX2) (N := 14) hx hb hts hiX2 hown hK hP 0 rfl rfl 3 (by decide) (hts (.fieldLink RX2 36 "CuckooShopLaw$Clock" "shows" "I") (by decide +kernel)) (fun _ h9 => h9) rfl dX2_pass_113 ?_
            refine lv_bipush (v := 60) hx hb dX2_pass_116 (by decide) ?_
            refine lv_irem hx hb dX2_pass_118 (by decide) ?_
            refine lv_bipush (v := 30) hx hb dX2_pass_119 (by decide) ?_
            refine lv_icmp_ne (tgt := 128) hx hb dX2_pass_121 (by decide) (fun c_121 => ?_) (fun c_121 => ?_)
            · refine lv_iconst (v := 0) hx hb dX2_pass_128 (by decide) ?_
              exact J2 _ (by simp only [k_dueL, if_neg c_9, if_neg c_41, if_neg c_87, if_neg c_121, reduceIte])
            · refine lv_iconst (v := 1) hx hb dX2_pass_124 (by decide) ?_
              refine lv_goto (tgt := 129) hx hb dX2_pass_125 (by decide) ?_
              exact J2 _ (by simp only [k_dueL, if_neg c_9, if_neg c_41, if_neg c_87, if_pos c_121, reduceIte])
          · refine lv_aload_n hx hb dX2_pass_90 rfl (lv_at hl 0 rfl) ?_
            refine va_get (D := D) (ci := 2) (v := .int sh) (C := RX2) (T := TX2) (N := 14) hx hb hts hiX2 hown hK hP 0 rfl rfl 3 (by decide) (hts (.fieldLink RX2 36 "CuckooShopLaw$Clock" "shows" "I") (by decide +kernel)) (fun _ h9 => h9) rfl dX2_pass_91 ?_
            refine lv_if_ne (tgt := 102) hx hb dX2_pass_94 (by decide) (fun c_94 => ?_) (fun c_94 => ?_)
            · refine lv_aload_n hx hb dX2_pass_102 rfl (lv_at hl 0 rfl) ?_
              refine va_get (D := D) (ci := 2) (v := .int sh) (C := RX2) (T := TX2) (N := 14) hx hb hts hiX2 hown hK hP 0 rfl rfl 3 (by decide) (hts (.fieldLink RX2 36 "CuckooShopLaw$Clock" "shows" "I") (by decide +kernel)) (fun _ h9 => h9) rfl dX2_pass_103 ?_
              refine lv_bipush (v := 60) hx hb dX2_pass_106 (by decide) ?_
              refine lv_idiv hx hb dX2_pass_108 (by decide) ?_
              refine lv_goto (tgt := 129) hx hb dX2_pass_109 (by decide) ?_
              exact J2 _ (by simp only [k_dueL, if_neg c_9, if_neg c_41, if_pos c_87, if_neg c_94, reduceIte])
            · refine lv_bipush (v := 12) hx hb dX2_pass_97 (by decide) ?_
              refine lv_goto (tgt := 129) hx hb dX2_pass_99 (by decide) ?_
              exact J2 _ (by simp only [k_dueL, if_neg c_9, if_neg c_41, if_pos c_87, if_pos c_94, reduceIte])
        refine lv_aload_n hx hb dX2_pass_57 rfl (lv_at hl 0 rfl) ?_
        refine va_get (D := D) (ci := 2) (v := .int (X 0)) (C := RX2) (T := TX2) (N := 14) hx hb hts hiX2 hown hK hP 0 rfl rfl 3 (by decide) (hts (.fieldLink RX2 36 "CuckooShopLaw$Clock" "shows" "I") (by decide +kernel)) (fun _ h9 => h9) rfl dX2_pass_58 ?_
        refine lv_sipush (v := 719) hx hb dX2_pass_61 (by decide) ?_
        refine lv_icmp_ne (tgt := 71) hx hb dX2_pass_64 (by decide) (fun c_64 => ?_) (fun c_64 => ?_)
        · refine lv_aload_n hx hb dX2_pass_71 rfl (lv_at hl 0 rfl) ?_
          refine va_get (D := D) (ci := 2) (v := .int (X 0)) (C := RX2) (T := TX2) (N := 14) hx hb hts hiX2 hown hK hP 0 rfl rfl 3 (by decide) (hts (.fieldLink RX2 36 "CuckooShopLaw$Clock" "shows" "I") (by decide +kernel)) (fun _ h9 => h9) rfl dX2_pass_72 ?_
          refine lv_iconst (v := 1) hx hb dX2_pass_75 (by decide) ?_
          refine lv_iadd hx hb dX2_pass_76 ?_
          exact J1 _ (by simp only [k_dueL, if_neg c_9, if_neg c_41, if_neg c_64, reduceIte])
        · refine lv_iconst (v := 0) hx hb dX2_pass_67 (by decide) ?_
          refine lv_goto (tgt := 77) hx hb dX2_pass_68 (by decide) ?_
          exact J1 _ (by simp only [k_dueL, if_neg c_9, if_neg c_41, if_pos c_64, reduceIte])
    exact loop _ _ q0 qj qr qc qf _ _ _ hP hD hS (lv_sub hl [0, 1] rfl)
  · exact fin _ _ _ _ (by rw [← k_min_5 c_9]; exact hP) hS dX2_pass_12

set_option maxHeartbeats 4000000 in
set_option maxRecDepth 100000 in
theorem m_X2_minit (l : Launch) (D : va_G) (C : Nat → ClassId) (h0 : Nat) : cu_V l D C yX2_init wsX2_init { frames := 1, cells := 0, slots := 0, locals := 12 } [.ref h0] (cu_wl h0 (fun _ => 0)) (cu_wl h0 (k_new (fun _ => 0))) 0 0 := by
  refine cu_openV (cc := cX2_init) (maxL := 1) (own := RX2) (by decide) rfl rfl (Nat.le_of_ble_eq_true rfl) ?_
  intro p e s m args below meth c A Z H0 ls e0 hx hb hml hts hown hnm hG hP hD hS hA hl fin
  have hK := hG.1
  have hl : lv_has ls 1 [(0, .ref h0)] := hl
  have hiX2 : ∀ w ∈ wsX20, w ∈ wsX2_init := by decide +kernel
  refine lv_aload_n hx hb dX2_init_0 rfl (lv_at hl 0 rfl) ?_
  refine W.objInit hx hb hown (hts (.methodLink RX2 1 objectInit) (by decide +kernel)) (hts (.instanceMethod objectInit) (by decide +kernel)) (hts (.code objectInit ⟨#[0xb1]⟩ 1 none) (by decide +kernel)) rfl (by rw [hml]; exact hl.1) rfl dX2_init_1 (Nat.le_of_ble_eq_true rfl) (Nat.le_of_ble_eq_true rfl) ?_
  refine W.eq (g2 := F0 m 4 ls []) rfl ?_
  refine lv_aload_n hx hb dX2_init_4 rfl (lv_at hl 0 rfl) ?_
  refine lv_bipush (v := 30) hx hb dX2_init_5 (by decide) ?_
  refine va_put (D := D) (ci := 2) (v := .int 30) (ty := .int) (C := RX2) (T := TX2) (N := 14) hx hb hts hiX2 tyX2 tyX2_ok nmX2 hown hK hP hD hS 0 rfl rfl 0 (by decide) (hts (.fieldLink RX2 7 "CuckooShopLaw$Clock" "a" "I") (by decide +kernel)) (fun _ h9 => h9) rfl (by decide +kernel) rfl rfl (Nat.le_of_ble_eq_true rfl) dX2_init_7 (fun H locs hP hD hS => ?_)
  have hP : va_P D vwCl (cu_wl h0 (upd (fun _ => 0) 9 30)) H := hP
  have hD : va_D A (cu_wl h0 (upd (fun _ => 0) 9 30)) := hD
  refine lv_aload_n hx hb dX2_init_10 rfl (lv_at hl 0 rfl) ?_
  refine lv_bipush (v := 30) hx hb dX2_init_11 (by decide) ?_
  refine va_put (D := D) (ci := 2) (v := .int 30) (ty := .int) (C := RX2) (T := TX2) (N := 14) hx hb hts hiX2 tyX2 tyX2_ok nmX2 hown hK hP hD hS 0 rfl rfl 1 (by decide) (hts (.fieldLink RX2 13 "CuckooShopLaw$Clock" "b" "I") (by decide +kernel)) (fun _ h9 => h9) rfl (by decide +kernel) rfl rfl (Nat.le_of_ble_eq_true rfl) dX2_init_13 (fun H locs hP hD hS => ?_)
  have hP : va_P D vwCl (cu_wl h0 (upd (upd (fun _ => 0) 9 30) 10 30)) H := hP
  have hD : va_D A (cu_wl h0 (upd (upd (fun _ => 0) 9 30) 10 30)) := hD
  refine lv_aload_n hx hb dX2_init_16 rfl (lv_at hl 0 rfl) ?_
  refine lv_sipush (v := 600) hx hb dX2_init_17 (by decide) ?_
  refine va_put (D := D) (ci := 2) (v := .int 600) (ty := .int) (C := RX2) (T := TX2) (N := 14) hx hb hts hiX2 tyX2 tyX2_ok nmX2 hown hK hP hD hS 0 rfl rfl 5 (by decide) (hts (.fieldLink RX2 16 "CuckooShopLaw$Clock" "chain" "I") (by decide +kernel)) (fun _ h9 => h9) rfl (by decide +kernel) rfl rfl (Nat.le_of_ble_eq_true rfl) dX2_init_20 (fun H locs hP hD hS => ?_)
  have hP : va_P D vwCl (cu_wl h0 (upd (upd (upd (fun _ => 0) 9 30) 10 30) 2 600)) H := hP
  have hD : va_D A (cu_wl h0 (upd (upd (upd (fun _ => 0) 9 30) 10 30) 2 600)) := hD
  refine lv_aload_n hx hb dX2_init_23 rfl (lv_at hl 0 rfl) ?_
  refine lv_bipush (v := 100) hx hb dX2_init_24 (by decide) ?_
  refine va_put (D := D) (ci := 2) (v := .int 100) (ty := .int) (C := RX2) (T := TX2) (N := 14) hx hb hts hiX2 tyX2 tyX2_ok nmX2 hown hK hP hD hS 0 rfl rfl 6 (by decide) (hts (.fieldLink RX2 19 "CuckooShopLaw$Clock" "oil" "I") (by decide +kernel)) (fun _ h9 => h9) rfl (by decide +kernel) rfl rfl (Nat.le_of_ble_eq_true rfl) dX2_init_26 (fun H locs hP hD hS => ?_)
  have hP : va_P D vwCl (cu_wl h0 (upd (upd (upd (upd (fun _ => 0) 9 30) 10 30) 2 600) 3 100)) H := hP
  have hD : va_D A (cu_wl h0 (upd (upd (upd (upd (fun _ => 0) 9 30) 10 30) 2 600) 3 100)) := hD
  refine lv_aload_n hx hb dX2_init_29 rfl (lv_at hl 0 rfl) ?_
  refine lv_bipush (v := 60) hx hb dX2_init_30 (by decide) ?_
  refine va_put (D := D) (ci := 2) (v := .int 60) (ty := .int) (C := RX2) (T := TX2) (N := 14) hx hb hts hiX2 tyX2 tyX2_ok nmX2 hown hK hP hD hS 0 rfl rfl 7 (by decide) (hts (.fieldLink RX2 22 "CuckooShopLaw$Clock" "bellows" "I") (by decide +kernel)) (fun _ h9 => h9) rfl (by decide +kernel) rfl rfl (Nat.le_of_ble_eq_true rfl) dX2_init_32 (fun H locs hP hD hS => ?_)
  have hP : va_P D vwCl (cu_wl h0 (upd (upd (upd (upd (upd (fun _ => 0) 9 30) 10 30) 2 600) 3 100) 4 60)) H := hP
  have hD : va_D A (cu_wl h0 (upd (upd (upd (upd (upd (fun _ => 0) 9 30) 10 30) 2 600) 3 100) 4 60)) := hD
  refine lv_aload_n hx hb dX2_init_35 rfl (lv_at hl 0 rfl) ?_
  refine lv_iconst (v := 1) hx hb dX2_init_36 (by decide) ?_
  refine va_put (D := D) (ci := 2) (v := .int 1) (ty := .boolean) (C := RX2) (T := TX2) (N := 14) hx hb hts hiX2 tyX2 tyX2_ok nmX2 hown hK hP hD hS 0 rfl rfl 8 (by decide) (hts (.fieldLink RX2 25 "CuckooShopLaw$Clock" "goes" "Z") (by decide +kernel)) (fun _ h9 => h9) rfl (by decide +kernel) rfl rfl (Nat.le_of_ble_eq_true rfl) dX2_init_37 (fun H locs hP hD hS => ?_)
  have hP : va_P D vwCl (cu_wl h0 (upd (upd (upd (upd (upd (upd (fun _ => 0) 9 30) 10 30) 2 600) 3 100) 4 60) 5 1)) H := hP
  have hD : va_D A (cu_wl h0 (upd (upd (upd (upd (upd (upd (fun _ => 0) 9 30) 10 30) 2 600) 3 100) 4 60) 5 1)) := hD
  refine lv_aload_n hx hb dX2_init_40 rfl (lv_at hl 0 rfl) ?_
  refine lv_iconst (v := -1) hx hb dX2_init_41 (by decide) ?_
  refine va_put (D := D) (ci := 2) (v := .int (-1)) (ty := .int) (C := RX2) (T := TX2) (N := 14) hx hb hts hiX2 tyX2 tyX2_ok nmX2 hown hK hP hD hS 0 rfl rfl 12 (by decide) (hts (.fieldLink RX2 29 "CuckooShopLaw$Clock" "from" "I") (by decide +kernel)) (fun _ h9 => h9) rfl (by decide +kernel) rfl rfl (Nat.le_of_ble_eq_true rfl) dX2_init_42 (fun H locs hP hD hS => ?_)
  have hP : va_P D vwCl (cu_wl h0 (upd (upd (upd (upd (upd (upd (upd (fun _ => 0) 9 30) 10 30) 2 600) 3 100) 4 60) 5 1) 12 (-1))) H := hP
  have hD : va_D A (cu_wl h0 (upd (upd (upd (upd (upd (upd (upd (fun _ => 0) 9 30) 10 30) 2 600) 3 100) 4 60) 5 1) 12 (-1))) := hD
  exact fin _ _ _ _ hP hS dX2_init_45
