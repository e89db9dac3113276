theorem k_isW_01 (x y z : Int32) : k_isW x y z = 0 ∨ k_isW x y z = 1 := by
  unfold k_isW
  split
  · exact Or.inl rfl
  · split
    · exact Or.inl rfl
    · exact Or.inr rfl
set_option maxHeartbeats 4000000 in
set_option maxRecDepth 100000 in
theorem m_X2_sh (l : Launch) (D : va_G) (C : Nat → ClassId) (o r q : Nat) (th : Int32) (N : Nat) (hN : N ≤ 10) (mn : Int32) (K : Nat → Nat → Int32) (i w : Nat) (hi : i < 10) (hw : w < 14) (x : Int32) (hx9 : K i w = x) : cu_I l D C yX2_sh wsX2_sh { frames := 0, cells := 0, slots := 0, locals := 0 } [.ref o, .int (nI i), .int (nI w)] (cu_mw C o r q th (nI N) mn K) (cu_mw C o r q th (nI N) mn K) x 0 0 := by
  refine cu_openI (cc := cX2_sh) (maxL := 3) (ty := .int) (own := RX2) (by decide) rfl rfl (Nat.le_of_ble_eq_true rfl) ?_
  intro p e s m args below meth c A Z H0 ls e0 hx hb hml hts hown hnm hG hP hD hS hA hl fin
  have hK := hG.1
  have hl : lv_has ls 3 [(0, .ref o), (1, .int (nI i)), (2, .int (nI w))] := hl
  have hiX2 : ∀ w ∈ wsX20, w ∈ wsX2_sh := by decide +kernel
  refine lv_aload_n hx hb dX2_sh_0 rfl (lv_at hl 0 rfl) ?_
  refine va_get (D := D) (ci := 2) (v := .ref r) (C := RX2) (T := TX2) (N := 4) hx hb hts hiX2 hown hK hP 0 rfl rfl 2 (by decide) (hts (.fieldLink RX2 9 "CuckooShopModel" "shop" "[I") (by decide +kernel)) (fun _ h9 => h9) rfl dX2_sh_1 ?_
  refine lv_bipush (v := 14) hx hb dX2_sh_4 (by decide) ?_
  refine lv_iload_n hx hb dX2_sh_6 rfl (lv_at hl 1 rfl) ?_
  refine lv_imul hx hb dX2_sh_7 ?_
  refine lv_iload_n hx hb dX2_sh_8 rfl (lv_at hl 2 rfl) ?_
  refine lv_iadd hx hb dX2_sh_9 ?_
  refine cu_top (x' := nI (14 * i + w)) (cu_ix) ?_
  refine va_iald (n := 140) (f := cu_sg K) hx hb hK hP 1 0 rfl rfl (vp_in_nI (by omega) (by decide)) dX2_sh_10 ?_
  exact fin _ _ _ _ _ rfl (by rw [nI_clamp (by omega), cu_sg_get hw]; exact hx9) hP hS dX2_sh_11

set_option maxHeartbeats 4000000 in
set_option maxRecDepth 100000 in
theorem m_X2_put (l : Launch) (D : va_G) (C : Nat → ClassId) (o r q : Nat) (th : Int32) (N : Nat) (hN : N ≤ 10) (mn : Int32) (K : Nat → Nat → Int32) (i w : Nat) (hi : i < 10) (hw : w < 14) (v3 : Int32) (K1 : Nat → Nat → Int32) (hK9 : va_up K i (upd (K i) w v3) = K1) : cu_V l D C yX2_put wsX2_put { frames := 0, cells := 0, slots := 0, locals := 0 } [.ref o, .int (nI i), .int (nI w), .int v3] (cu_mw C o r q th (nI N) mn K) (cu_mw C o r q th (nI N) mn K1) 0 0 := by
  refine cu_openV (cc := cX2_put) (maxL := 4) (own := RX2) (by decide) rfl rfl (Nat.le_of_ble_eq_true rfl) ?_
  intro p e s m args below meth c A Z H0 ls e0 hx hb hml hts hown hnm hG hP hD hS hA hl fin
  have hK := hG.1
  have hl : lv_has ls 4 [(0, .ref o), (1, .int (nI i)), (2, .int (nI w)), (3, .int v3)] := hl
  have hiX2 : ∀ w ∈ wsX20, w ∈ wsX2_put := by decide +kernel
  refine lv_aload_n hx hb dX2_put_0 rfl (lv_at hl 0 rfl) ?_
  refine va_get (D := D) (ci := 2) (v := .ref r) (C := RX2) (T := TX2) (N := 4) hx hb hts hiX2 hown hK hP 0 rfl rfl 2 (by decide) (hts (.fieldLink RX2 9 "CuckooShopModel" "shop" "[I") (by decide +kernel)) (fun _ h9 => h9) rfl dX2_put_1 ?_
  refine lv_bipush (v := 14) hx hb dX2_put_4 (by decide) ?_
  refine lv_iload_n hx hb dX2_put_6 rfl (lv_at hl 1 rfl) ?_
  refine lv_imul hx hb dX2_put_7 ?_
  refine lv_iload_n hx hb dX2_put_8 rfl (lv_at hl 2 rfl) ?_
  refine lv_iadd hx hb dX2_put_9 ?_
  refine cu_top (x' := nI (14 * i + w)) (cu_ix) ?_
  refine lv_iload_n hx hb dX2_put_10 rfl (lv_at hl 3 rfl) ?_
  refine va_iast (n := 140) (f := cu_sg K) hx hb hK hP hD hS 1 0 rfl rfl (vp_in_nI (by omega) (by decide)) dX2_put_11 (fun H locs hP hD hS => ?_)
  rw [nI_clamp (by omega), cu_sg_put hw, hK9] at hP hD
  have hP : va_P D vwCl (cu_mw C o r q th (nI N) mn K1) H := hP
  have hD : va_D A (cu_mw C o r q th (nI N) mn K1) := hD
  exact fin _ _ _ _ hP hS dX2_put_12

set_option maxHeartbeats 4000000 in
set_option maxRecDepth 100000 in
theorem m_X2_add (l : Launch) (D : va_G) (C : Nat → ClassId) (o r q : Nat) (th : Int32) (N : Nat) (hN : N ≤ 10) (mn : Int32) (K : Nat → Nat → Int32) (i w : Nat) (hi : i < 10) (hw : w < 14) (v3 x : Int32) (hx9 : K i w = x) (K1 : Nat → Nat → Int32) (hK9 : va_up K i (upd (K i) w (x + v3)) = K1) : cu_V l D C yX2_add wsX2_add { frames := 0, cells := 0, slots := 0, locals := 0 } [.ref o, .int (nI i), .int (nI w), .int v3] (cu_mw C o r q th (nI N) mn K) (cu_mw C o r q th (nI N) mn K1) 0 0 := by
  refine cu_openV (cc := cX2_add) (maxL := 4) (own := RX2) (by decide) rfl rfl (Nat.le_of_ble_eq_true rfl) ?_
  intro p e s m args below meth c A Z H0 ls e0 hx hb hml hts hown hnm hG hP hD hS hA hl fin
  have hK := hG.1
  have hl : lv_has ls 4 [(0, .ref o), (1, .int (nI i)), (2, .int (nI w)), (3, .int v3)] := hl
  have hiX2 : ∀ w ∈ wsX20, w ∈ wsX2_add := by decide +kernel
  refine lv_aload_n hx hb dX2_add_0 rfl (lv_at hl 0 rfl) ?_
  refine va_get (D := D) (ci := 2) (v := .ref r) (C := RX2) (T := TX2) (N := 4) hx hb hts hiX2 hown hK hP 0 rfl rfl 2 (by decide) (hts (.fieldLink RX2 9 "CuckooShopModel" "shop" "[I") (by decide +kernel)) (fun _ h9 => h9) rfl dX2_add_1 ?_
  refine lv_bipush (v := 14) hx hb dX2_add_4 (by decide) ?_
  refine lv_iload_n hx hb dX2_add_6 rfl (lv_at hl 1 rfl) ?_
  refine lv_imul hx hb dX2_add_7 ?_
  refine lv_iload_n hx hb dX2_add_8 rfl (lv_at hl 2 rfl) ?_
  refine lv_iadd hx hb dX2_add_9 ?_
  refine cu_top (x' := nI (14 * i + w)) (cu_ix) ?_
  refine lv_dup2_11 hx hb dX2_add_10 rfl rfl ?_
  refine va_iald (n := 140) (f := cu_sg K) hx hb hK hP 1 0 rfl rfl (vp_in_nI (by omega) (by decide)) dX2_add_11 ?_
  refine cu_top (x' := x) (by rw [nI_clamp (by omega), cu_sg_get hw]; exact hx9) ?_
  refine lv_iload_n hx hb dX2_add_12 rfl (lv_at hl 3 rfl) ?_
  refine lv_iadd hx hb dX2_add_13 ?_
  refine va_iast (n := 140) (f := cu_sg K) hx hb hK hP hD hS 1 0 rfl rfl (vp_in_nI (by omega) (by decide)) dX2_add_14 (fun H locs hP hD hS => ?_)
  rw [nI_clamp (by omega), cu_sg_put hw, hK9] at hP hD
  have hP : va_P D vwCl (cu_mw C o r q th (nI N) mn K1) H := hP
  have hD : va_D A (cu_mw C o r q th (nI N) mn K1) := hD
  exact fin _ _ _ _ hP hS dX2_add_15

set_option maxHeartbeats 4000000 in
set_option maxRecDepth 100000 in
theorem m_X2_isIn (l : Launch) (D : va_G) (C : Nat → ClassId) (v1 v2 v3 : Int32) : cu_I l D C yX2_isIn wsX2_isIn { frames := 0, cells := 0, slots := 0, locals := 0 } [.int v1, .int v2, .int v3] ([] : va_W) ([] : va_W) (k_isW v1 v2 v3) 0 0 := by
  refine cu_openI (cc := cX2_isIn) (maxL := 3) (ty := .boolean) (own := RX2) (by decide) rfl rfl (Nat.le_of_ble_eq_true rfl) ?_
  intro p e s m args below meth c A Z H0 ls e0 hx hb hml hts hown hnm hG hP hD hS hA hl fin
  have hK := hG.1
  have hl : lv_has ls 3 [(0, .int v1), (1, .int v2), (2, .int v3)] := hl
  refine lv_iload_n hx hb dX2_isIn_0 rfl (lv_at hl 0 rfl) ?_
  refine lv_iload_n hx hb dX2_isIn_1 rfl (lv_at hl 1 rfl) ?_
  refine lv_icmp_lt (tgt := 14) hx hb dX2_isIn_2 (by decide) (fun c_2 => ?_) (fun c_2 => ?_)
  · refine lv_iconst (v := 0) hx hb dX2_isIn_14 (by decide) ?_
    exact fin _ _ _ _ _ (by decide) (by simp only [k_isW, if_pos c_2, reduceIte]) hP hS dX2_isIn_15
  · refine lv_iload_n hx hb dX2_isIn_5 rfl (lv_at hl 0 rfl) ?_
    refine lv_iload_n hx hb dX2_isIn_6 rfl (lv_at hl 2 rfl) ?_
    refine lv_icmp_gt (tgt := 14) hx hb dX2_isIn_7 (by decide) (fun c_7 => ?_) (fun c_7 => ?_)
    · refine lv_iconst (v := 0) hx hb dX2_isIn_14 (by decide) ?_
      exact fin _ _ _ _ _ (by decide) (by simp only [k_isW, if_neg c_2, if_pos c_7, reduceIte]) hP hS dX2_isIn_15
    · refine lv_iconst (v := 1) hx hb dX2_isIn_10 (by decide) ?_
      refine lv_goto (tgt := 15) hx hb dX2_isIn_11 (by decide) ?_
      exact fin _ _ _ _ _ (by decide) (by simp only [k_isW, if_neg c_2, if_neg c_7, reduceIte]) hP hS dX2_isIn_15

set_option maxHeartbeats 4000000 in
set_option maxRecDepth 100000 in
theorem m_X2_isClock (l : Launch) (D : va_G) (C : Nat → ClassId) (o r q : Nat) (th : Int32) (N : Nat) (hN : N ≤ 10) (mn : Int32) (K : Nat → Nat → Int32) (v1 : Int32) : cu_I l D C yX2_isClock wsX2_isClock { frames := 1, cells := 0, slots := 0, locals := 22 } [.ref o, .int v1] (cu_mw C o r q th (nI N) mn K) (cu_mw C o r q th (nI N) mn K) (k_isW v1 0 (nI N - 1)) 0 0 := by
  refine cu_openI (cc := cX2_isClock) (maxL := 2) (ty := .boolean) (own := RX2) (by decide) rfl rfl (Nat.le_of_ble_eq_true rfl) ?_
  intro p e s m args below meth c A Z H0 ls e0 hx hb hml hts hown hnm hG hP hD hS hA hl fin
  have hK := hG.1
  have hl : lv_has ls 2 [(0, .ref o), (1, .int v1)] := hl
  have hiX2 : ∀ w ∈ wsX20, w ∈ wsX2_isClock := by decide +kernel
  refine lv_iload_n hx hb dX2_isClock_0 rfl (lv_at hl 1 rfl) ?_
  refine lv_iconst (v := 0) hx hb dX2_isClock_1 (by decide) ?_
  refine lv_aload_n hx hb dX2_isClock_2 rfl (lv_at hl 0 rfl) ?_
  refine va_get (D := D) (ci := 2) (v := .int (nI N)) (C := RX2) (T := TX2) (N := 4) hx hb hts hiX2 hown hK hP 0 rfl rfl 1 (by decide) (hts (.fieldLink RX2 20 "CuckooShopModel" "clocks" "I") (by decide +kernel)) (fun _ h9 => h9) rfl dX2_isClock_3 ?_
  refine lv_iconst (v := 1) hx hb dX2_isClock_6 (by decide) ?_
  refine lv_isub hx hb dX2_isClock_7 ?_
  have sp := cu_sp.nil (W0 := (cu_mw C o r q th (nI N) mn K))
  refine cu_callI (va_runS (As := [.int v1, .int 0, .int (nI N - 1)]) (rest := []) ⟨hx, hb, hml, hown, hts⟩ ((m_X2_isIn l D C v1 0 (nI N - 1)) H0.size) (va_cwS 3 hts gX2_isClock_X2_isIn rfl rfl rfl (by decide +kernel) ⟨Nat.le_of_ble_eq_true rfl, Nat.le_of_ble_eq_true rfl⟩) (cu_preS sp hG hP hD) rfl rfl hl.1 rfl (lv_room (Nat.le_of_ble_eq_true rfl)) dX2_isClock_8 ⟨Nat.le_of_ble_eq_true rfl, Nat.le_of_ble_eq_true rfl⟩) sp hP hD hS hA (fun H locs hP hD hS => ?_)
  exact fin _ _ _ _ _ (cu_nb (k_isW_01 _ _ _)) (by rfl) hP hS dX2_isClock_11

set_option maxHeartbeats 4000000 in
set_option maxRecDepth 100000 in
theorem m_X2_fail (l : Launch) (D : va_G) (C : Nat → ClassId) (o r q : Nat) (th : Int32) (N : Nat) (hN : N ≤ 10) (mn : Int32) (K : Nat → Nat → Int32) (v1 : Int32) : cu_I l D C yX2_fail wsX2_fail { frames := 0, cells := 0, slots := 0, locals := 0 } [.ref o, .int v1] (cu_mw C o r q th (nI N) mn K) (cu_mw C o r q v1 (nI N) mn K) 0 0 0 := by
  refine cu_openI (cc := cX2_fail) (maxL := 2) (ty := .int) (own := RX2) (by decide) rfl rfl (Nat.le_of_ble_eq_true rfl) ?_
  intro p e s m args below meth c A Z H0 ls e0 hx hb hml hts hown hnm hG hP hD hS hA hl fin
  have hK := hG.1
  have hl : lv_has ls 2 [(0, .ref o), (1, .int v1)] := hl
  have hiX2 : ∀ w ∈ wsX20, w ∈ wsX2_fail := by decide +kernel
  refine lv_aload_n hx hb dX2_fail_0 rfl (lv_at hl 0 rfl) ?_
  refine lv_iload_n hx hb dX2_fail_1 rfl (lv_at hl 1 rfl) ?_
  refine va_put (D := D) (ci := 2) (v := .int v1) (ty := .int) (C := RX2) (T := TX2) (N := 4) hx hb hts hiX2 tyX2 tyX2_ok nmX2 hown hK hP hD hS 0 rfl rfl 0 (by decide) (hts (.fieldLink RX2 16 "CuckooShopModel" "thrown" "I") (by decide +kernel)) (fun _ h9 => h9) rfl (by decide +kernel) rfl rfl (Nat.le_of_ble_eq_true rfl) dX2_fail_2 (fun H locs hP hD hS => ?_)
  have hP : va_P D vwCl (cu_mw C o r q v1 (nI N) mn K) H := hP
  have hD : va_D A (cu_mw C o r q v1 (nI N) mn K) := hD
  refine lv_iconst (v := 0) hx hb dX2_fail_5 (by decide) ?_
  exact fin _ _ _ _ _ rfl (by rfl) hP hS dX2_fail_6

set_option maxHeartbeats 4000000 in
set_option maxRecDepth 100000 in
theorem m_X2_thrown (l : Launch) (D : va_G) (C : Nat → ClassId) (o r q : Nat) (th : Int32) (N : Nat) (hN : N ≤ 10) (mn : Int32) (K : Nat → Nat → Int32) : cu_I l D C yX2_thrown wsX2_thrown { frames := 0, cells := 0, slots := 0, locals := 0 } [.ref o] (cu_mw C o r q th (nI N) mn K) (cu_mw C o r q th (nI N) mn K) th 0 0 := by
  refine cu_openI (cc := cX2_thrown) (maxL := 1) (ty := .int) (own := RX2) (by decide) rfl rfl (Nat.le_of_ble_eq_true rfl) ?_
  intro p e s m args below meth c A Z H0 ls e0 hx hb hml hts hown hnm hG hP hD hS hA hl fin
  have hK := hG.1
  have hl : lv_has ls 1 [(0, .ref o)] := hl
  have hiX2 : ∀ w ∈ wsX20, w ∈ wsX2_thrown := by decide +kernel
  refine lv_aload_n hx hb dX2_thrown_0 rfl (lv_at hl 0 rfl) ?_
  refine va_get (D := D) (ci := 2) (v := .int th) (C := RX2) (T := TX2) (N := 4) hx hb hts hiX2 hown hK hP 0 rfl rfl 0 (by decide) (hts (.fieldLink RX2 16 "CuckooShopModel" "thrown" "I") (by decide +kernel)) (fun _ h9 => h9) rfl dX2_thrown_1 ?_
  exact fin _ _ _ _ _ rfl (by rfl) hP hS dX2_thrown_4

set_option maxHeartbeats 4000000 in
set_option maxRecDepth 100000 in
theorem m_X2_advance (l : Launch) (D : va_G) (C : Nat → ClassId) (o r q : Nat) (th : Int32) (N : Nat) (hN : N ≤ 10) (mn : Int32) (K : Nat → Nat → Int32) (i : Nat) (hi : i < 10) (Y : Nat → Int32) (hY : K i = Y) (v2 v3 : Int32) (hb0 : ¬ v3 = 0) : cu_I l D C yX2_advance wsX2_advance { frames := 1, cells := 0, slots := 0, locals := 22 } [.ref o, .int (nI i), .int v2, .int v3] (cu_mw C o r q th (nI N) mn K) (cu_mw C o r q th (nI N) mn K) (k_advW Y v2 v3) 0 0 := by
  refine cu_openI (cc := cX2_advance) (maxL := 5) (ty := .int) (own := RX2) (by decide) rfl rfl (Nat.le_of_ble_eq_true rfl) ?_
  intro p e s m args below meth c A Z H0 ls e0 hx hb hml hts hown hnm hG hP hD hS hA hl fin
  have hK := hG.1
  have hl : lv_has ls 5 [(0, .ref o), (1, .int (nI i)), (2, .int v2), (3, .int v3)] := hl
  subst hY
  refine lv_sipush (v := 900) hx hb dX2_advance_0 (by decide) ?_
  refine lv_iload_n hx hb dX2_advance_3 rfl (lv_at hl 2 rfl) ?_
  refine lv_imul hx hb dX2_advance_4 ?_
  refine lv_iload_n hx hb dX2_advance_5 rfl (lv_at hl 3 rfl) ?_
  refine lv_idiv hx hb dX2_advance_6 hb0 ?_
  refine lv_aload_n hx hb dX2_advance_7 rfl (lv_at hl 0 rfl) ?_
  refine lv_iload_n hx hb dX2_advance_8 rfl (lv_at hl 1 rfl) ?_
  refine lv_bipush (v := 11) hx hb dX2_advance_9 (by decide) ?_
  have sp := cu_sp.all (W0 := (cu_mw C o r q th (nI N) mn K)) (W1 := (cu_mw C o r q th (nI N) mn K)) rfl
  refine cu_callI (va_runV (As := [.int (nI i), .int 11]) (rest := [.int ((900 * v2) / v3)]) ⟨hx, hb, hml, hown, hts⟩ ((m_X2_sh l D C o r q th N hN mn K i 11 hi (by decide) (K i 11) rfl) H0.size) (cwV 2 hts gX2_advance_X2_sh rfl rfl rfl (by decide +kernel) ⟨Nat.le_of_ble_eq_true rfl, Nat.le_of_ble_eq_true rfl⟩) (cu_preV (ci := 2) sp hG hP hD rfl rfl) rfl rfl hl.1 rfl (lv_room (Nat.le_of_ble_eq_true rfl)) dX2_advance_11 ⟨Nat.le_of_ble_eq_true rfl, Nat.le_of_ble_eq_true rfl⟩) sp hP hD hS hA (fun H locs hP hD hS => ?_)
  have hP : va_P D vwCl (cu_mw C o r q th (nI N) mn K) H := hP
  have hD : va_D A (cu_mw C o r q th (nI N) mn K) := hD
  refine lv_iadd hx hb dX2_advance_14 ?_
  refine lv_istore (lv' := [(4, .int (((900 * v2) / v3) + (K i 11))), (0, .ref o), (1, .int (nI i)), (2, .int v2), (3, .int v3)]) hx hb dX2_advance_15 hl (by decide) rfl (fun ls hl => ?_)
  refine lv_aload_n hx hb dX2_advance_17 rfl (lv_at hl 1 rfl) ?_
  refine lv_iload_n hx hb dX2_advance_18 rfl (lv_at hl 2 rfl) ?_
  refine lv_iconst (v := 3) hx hb dX2_advance_19 (by decide) ?_
  have sp := cu_sp.all (W0 := (cu_mw C o r q th (nI N) mn K)) (W1 := (cu_mw C o r q th (nI N) mn K)) rfl
  refine cu_callI (va_runV (As := [.int (nI i), .int 3]) (rest := []) ⟨hx, hb, hml, hown, hts⟩ ((m_X2_sh l D C o r q th N hN mn K i 3 hi (by decide) (K i 3) rfl) H.size) (cwV 2 hts gX2_advance_X2_sh rfl rfl rfl (by decide +kernel) ⟨Nat.le_of_ble_eq_true rfl, Nat.le_of_ble_eq_true rfl⟩) (cu_preV (ci := 2) sp hG hP hD rfl rfl) rfl rfl hl.1 rfl (lv_room (Nat.le_of_ble_eq_true rfl)) dX2_advance_20 ⟨Nat.le_of_ble_eq_true rfl, Nat.le_of_ble_eq_true rfl⟩) sp hP hD hS hA (fun H locs hP hD hS => ?_)
  have hP : va_P D vwCl (cu_mw C o r q th (nI N) mn K) H := hP
  have hD : va_D A (cu_mw C o r q th (nI N) mn K) := hD
  refine lv_bipush (v := 20) hx hb dX2_advance_23 (by decide) ?_
  refine lv_icmp_ge (tgt := 39) hx hb dX2_advance_25 (by decide) (fun c_25 => ?_) (fun c_25 => ?_)
  · refine lv_iload hx hb dX2_advance_39 (lv_at hl 0 rfl) ?_
    exact fin _ _ _ _ _ rfl (by simp only [k_advW, if_neg hb0, if_pos c_25]) hP hS dX2_advance_41
  · refine lv_iload hx hb dX2_advance_28 (lv_at hl 0 rfl) ?_
    refine lv_iload hx hb dX2_advance_30 (lv_at hl 0 rfl) ?_
    refine lv_bipush (v := 10) hx hb dX2_advance_32 (by decide) ?_
    refine lv_idiv hx hb dX2_advance_34 (by decide) ?_
    refine lv_isub hx hb dX2_advance_35 ?_
    refine lv_goto (tgt := 41) hx hb dX2_advance_36 (by decide) ?_
    exact fin _ _ _ _ _ rfl (by simp only [k_advW, if_neg hb0, if_neg c_25]) hP hS dX2_advance_41

set_option maxHeartbeats 4000000 in
set_option maxRecDepth 100000 in
theorem m_X2_advance_ (l : Launch) (D : va_G) (C : Nat → ClassId) (o r q : Nat) (th : Int32) (N : Nat) (hN : N ≤ 10) (mn : Int32) (K : Nat → Nat → Int32) (i : Nat) (hi : i < 10) (Y : Nat → Int32) (hY : K i = Y) (hb0 : ¬ Y 10 = 0) : cu_I l D C yX2_advance_ wsX2_advance_ { frames := 2, cells := 0, slots := 0, locals := 46 } [.ref o, .int (nI i)] (cu_mw C o r q th (nI N) mn K) (cu_mw C o r q th (nI N) mn K) (k_adv Y) 0 0 := by
  refine cu_openI (cc := cX2_advance_) (maxL := 2) (ty := .int) (own := RX2) (by decide) rfl rfl (Nat.le_of_ble_eq_true rfl) ?_
  intro p e s m args below meth c A Z H0 ls e0 hx hb hml hts hown hnm hG hP hD hS hA hl fin
  have hK := hG.1
  have hl : lv_has ls 2 [(0, .ref o), (1, .int (nI i))] := hl
  subst hY
  refine lv_aload_n hx hb dX2_advance__0 rfl (lv_at hl 0 rfl) ?_
  refine lv_iload_n hx hb dX2_advance__1 rfl (lv_at hl 1 rfl) ?_
  refine lv_aload_n hx hb dX2_advance__2 rfl (lv_at hl 0 rfl) ?_
  refine lv_iload_n hx hb dX2_advance__3 rfl (lv_at hl 1 rfl) ?_
  refine lv_bipush (v := 9) hx hb dX2_advance__4 (by decide) ?_
  have sp := cu_sp.all (W0 := (cu_mw C o r q th (nI N) mn K)) (W1 := (cu_mw C o r q th (nI N) mn K)) rfl
  refine cu_callI (va_runV (As := [.int (nI i), .int 9]) (rest := [.int (nI i), .ref o]) ⟨hx, hb, hml, hown, hts⟩ ((m_X2_sh l D C o r q th N hN mn K i 9 hi (by decide) (K i 9) rfl) H0.size) (cwV 2 hts gX2_advance__X2_sh rfl rfl rfl (by decide +kernel) ⟨Nat.le_of_ble_eq_true rfl, Nat.le_of_ble_eq_true rfl⟩) (cu_preV (ci := 2) sp hG hP hD rfl rfl) rfl rfl hl.1 rfl (lv_room (Nat.le_of_ble_eq_true rfl)) dX2_advance__6 ⟨Nat.le_of_ble_eq_true rfl, Nat.le_of_ble_eq_true rfl⟩) sp hP hD hS hA (fun H locs hP hD hS => ?_)
  have hP : va_P D vwCl (cu_mw C o r q th (nI N) mn K) H := hP
  have hD : va_D A (cu_mw C o r q th (nI N) mn K) := hD
  refine lv_aload_n hx hb dX2_advance__9 rfl (lv_at hl 0 rfl) ?_
  refine lv_iload_n hx hb dX2_advance__10 rfl (lv_at hl 1 rfl) ?_
  refine lv_bipush (v := 10) hx hb dX2_advance__11 (by decide) ?_
  have sp := cu_sp.all (W0 := (cu_mw C o r q th (nI N) mn K)) (W1 := (cu_mw C o r q th (nI N) mn K)) rfl
  refine cu_callI (va_runV (As := [.int (nI i), .int 10]) (rest := [.int (K i 9), .int (nI i), .ref o]) ⟨hx, hb, hml, hown, hts⟩ ((m_X2_sh l D C o r q th N hN mn K i 10 hi (by decide) (K i 10) rfl) H.size) (cwV 2 hts gX2_advance__X2_sh rfl rfl rfl (by decide +kernel) ⟨Nat.le_of_ble_eq_true rfl, Nat.le_of_ble_eq_true rfl⟩) (cu_preV (ci := 2) sp hG hP hD rfl rfl) rfl rfl hl.1 rfl (lv_room (Nat.le_of_ble_eq_true rfl)) dX2_advance__13 ⟨Nat.le_of_ble_eq_true rfl, Nat.le_of_ble_eq_true rfl⟩) sp hP hD hS hA (fun H locs hP hD hS => ?_)
  have hP : va_P D vwCl (cu_mw C o r q th (nI N) mn K) H := hP
  have hD : va_D A (cu_mw C o r q th (nI N) mn K) := hD
  have sp := cu_sp.all (W0 := (cu_mw C o r q th (nI N) mn K)) (W1 := (cu_mw C o r q th (nI N) mn K)) rfl
  refine cu_callI (va_runV (As := [.int (nI i), .int (K i 9), .int (K i 10)]) (rest := []) ⟨hx, hb, hml, hown, hts⟩ ((m_X2_advance l D C o r q th N hN mn K i hi (K i) rfl (K i 9) (K i 10) hb0) H.size) (cwV 3 hts gX2_advance__X2_advance rfl rfl rfl (by decide +kernel) ⟨Nat.le_of_ble_eq_true rfl, Nat.le_of_ble_eq_true rfl⟩) (cu_preV (ci := 2) sp hG hP hD rfl rfl) rfl rfl hl.1 rfl (lv_room (Nat.le_of_ble_eq_true rfl)) dX2_advance__16 ⟨Nat.le_of_ble_eq_true rfl, Nat.le_of_ble_eq_true rfl⟩) sp hP hD hS hA (fun H locs hP hD hS => ?_)
  have hP : va_P D vwCl (cu_mw C o r q th (nI N) mn K) H := hP
  have hD : va_D A (cu_mw C o r q th (nI N) mn K) := hD
  exact fin _ _ _ _ _ rfl (by rfl) hP hS dX2_advance__19

set_option maxHeartbeats 4000000 in
set_option maxRecDepth 100000 in
theorem m_X2_offBy (l : Launch) (D : va_G) (C : Nat → ClassId) (o r q : Nat) (th : Int32) (N : Nat) (hN : N ≤ 10) (mn : Int32) (K : Nat → Nat → Int32) (i : Nat) (hi : i < 10) (Y : Nat → Int32) (hY : K i = Y) (hok : k_okc Y) (hm : 0 ≤ mn.toInt) : cu_I l D C yX2_offBy wsX2_offBy { frames := 1, cells := 0, slots := 0, locals := 22 } [.ref o, .int (nI i)] (cu_mw C o r q th (nI N) mn K) (cu_mw C o r q th (nI N) mn K) (k_off Y mn) 0 0 := by
  refine cu_openI (cc := cX2_offBy) (maxL := 2) (ty := .int) (own := RX2) (by decide) rfl rfl (Nat.le_of_ble_eq_true rfl) ?_
  intro p e s m args below meth c A Z H0 ls e0 hx hb hml hts hown hnm hG hP hD hS hA hl fin
  have hK := hG.1
  have hl : lv_has ls 2 [(0, .ref o), (1, .int (nI i))] := hl
  have hiX2 : ∀ w ∈ wsX20, w ∈ wsX2_offBy := by decide +kernel
  subst hY
  refine lv_aload_n hx hb dX2_offBy_0 rfl (lv_at hl 0 rfl) ?_
  refine lv_iload_n hx hb dX2_offBy_1 rfl (lv_at hl 1 rfl) ?_
  refine lv_iconst (v := 0) hx hb dX2_offBy_2 (by decide) ?_
  have sp := cu_sp.all (W0 := (cu_mw C o r q th (nI N) mn K)) (W1 := (cu_mw C o r q th (nI N) mn K)) rfl
  refine cu_callI (va_runV (As := [.int (nI i), .int 0]) (rest := []) ⟨hx, hb, hml, hown, hts⟩ ((m_X2_sh l D C o r q th N hN mn K i 0 hi (by decide) (K i 0) rfl) H0.size) (cwV 2 hts gX2_offBy_X2_sh rfl rfl rfl (by decide +kernel) ⟨Nat.le_of_ble_eq_true rfl, Nat.le_of_ble_eq_true rfl⟩) (cu_preV (ci := 2) sp hG hP hD rfl rfl) rfl rfl hl.1 rfl (lv_room (Nat.le_of_ble_eq_true rfl)) dX2_offBy_3 ⟨Nat.le_of_ble_eq_true rfl, Nat.le_of_ble_eq_true rfl⟩) sp hP hD hS hA (fun H locs hP hD hS => ?_)
  have hP : va_P D vwCl (cu_mw C o r q th (nI N) mn K) H := hP
  have hD : va_D A (cu_mw C o r q th (nI N) mn K) := hD
  refine lv_sipush (v := 720) hx hb dX2_offBy_6 (by decide) ?_
  refine lv_iadd hx hb dX2_offBy_9 ?_
  refine lv_sipush (v := 360) hx hb dX2_offBy_10 (by decide) ?_
  refine lv_iadd hx hb dX2_offBy_13 ?_
  refine lv_aload_n hx hb dX2_offBy_14 rfl (lv_at hl 0 rfl) ?_
  refine va_get (D := D) (ci := 2) (v := .ref q) (C := RX2) (T := TX2) (N := 4) hx hb hts hiX2 hown hK hP 0 rfl rfl 3 (by decide) (hts (.fieldLink RX2 13 "CuckooShopModel" "minute" "[I") (by decide +kernel)) (fun _ h9 => h9) rfl dX2_offBy_15 ?_
  refine lv_iconst (v := 0) hx hb dX2_offBy_18 (by decide) ?_
  refine va_iald (n := 1) (f := fun _ => mn) hx hb hK hP 2 0 rfl rfl (vp_in_nI (n := 0) (by decide) (by decide)) dX2_offBy_19 ?_
  refine cu_top (x' := mn) rfl ?_
  refine lv_sipush (v := 720) hx hb dX2_offBy_20 (by decide) ?_
  refine lv_irem hx hb dX2_offBy_23 (by decide) ?_
  refine lv_isub hx hb dX2_offBy_24 ?_
  refine lv_sipush (v := 720) hx hb dX2_offBy_25 (by decide) ?_
  refine lv_irem hx hb dX2_offBy_28 (by decide) ?_
  refine lv_sipush (v := 360) hx hb dX2_offBy_29 (by decide) ?_
  refine lv_isub hx hb dX2_offBy_32 ?_
  exact fin _ _ _ _ _ rfl (by exact k_off_M hok hm) hP hS dX2_offBy_33

set_option maxHeartbeats 4000000 in
set_option maxRecDepth 100000 in
theorem m_X2_isShut (l : Launch) (D : va_G) (C : Nat → ClassId) (o r q : Nat) (th : Int32) (N : Nat) (hN : N ≤ 10) (mn : Int32) (K : Nat → Nat → Int32) (i : Nat) (hi : i < 10) (Y : Nat → Int32) (hY : K i = Y) (hok : k_okc Y) : cu_I l D C yX2_isShut wsX2_isShut { frames := 1, cells := 0, slots := 0, locals := 22 } [.ref o, .int (nI i)] (cu_mw C o r q th (nI N) mn K) (cu_mw C o r q th (nI N) mn K) (k_shutAt Y (Y 0)) 0 0 := by
  refine cu_openI (cc := cX2_isShut) (maxL := 4) (ty := .boolean) (own := RX2) (by decide) rfl rfl (Nat.le_of_ble_eq_true rfl) ?_
  intro p e s m args below meth c A Z H0 ls e0 hx hb hml hts hown hnm hG hP hD hS hA hl fin
  have hK := hG.1
  have hl : lv_has ls 4 [(0, .ref o), (1, .int (nI i))] := hl
  subst hY
  refine lv_aload_n hx hb dX2_isShut_0 rfl (lv_at hl 0 rfl) ?_
  refine lv_iload_n hx hb dX2_isShut_1 rfl (lv_at hl 1 rfl) ?_
  refine lv_bipush (v := 12) hx hb dX2_isShut_2 (by decide) ?_
  have sp := cu_sp.all (W0 := (cu_mw C o r q th (nI N) mn K)) (W1 := (cu_mw C o r q th (nI N) mn K)) rfl
  refine cu_callI (va_runV (As := [.int (nI i), .int 12]) (rest := []) ⟨hx, hb, hml, hown, hts⟩ ((m_X2_sh l D C o r q th N hN mn K i 12 hi (by decide) (K i 12) rfl) H0.size) (cwV 2 hts gX2_isShut_X2_sh rfl rfl rfl (by decide +kernel) ⟨Nat.le_of_ble_eq_true rfl, Nat.le_of_ble_eq_true rfl⟩) (cu_preV (ci := 2) sp hG hP hD rfl rfl) rfl rfl hl.1 rfl (lv_room (Nat.le_of_ble_eq_true rfl)) dX2_isShut_4 ⟨Nat.le_of_ble_eq_true rfl, Nat.le_of_ble_eq_true rfl⟩) sp hP hD hS hA (fun H locs hP hD hS => ?_)
  have hP : va_P D vwCl (cu_mw C o r q th (nI N) mn K) H := hP
  have hD : va_D A (cu_mw C o r q th (nI N) mn K) := hD
  refine lv_istore_n (lv' := [(2, .int (K i 12)), (0, .ref o), (1, .int (nI i))]) hx hb dX2_isShut_7 rfl hl (by decide) rfl (fun ls hl => ?_)
  refine lv_iload_n hx hb dX2_isShut_8 rfl (lv_at hl 0 rfl) ?_
  refine lv_iconst (v := -1) hx hb dX2_isShut_9 (by decide) ?_
  refine lv_icmp_ne (tgt := 15) hx hb dX2_isShut_10 (by decide) (fun c_10 => ?_) (fun c_10 => ?_)
  · refine lv_aload_n hx hb dX2_isShut_15 rfl (lv_at hl 1 rfl) ?_
    refine lv_iload_n hx hb dX2_isShut_16 rfl (lv_at hl 2 rfl) ?_
    refine lv_bipush (v := 13) hx hb dX2_isShut_17 (by decide) ?_
    have sp := cu_sp.all (W0 := (cu_mw C o r q th (nI N) mn K)) (W1 := (cu_mw C o r q th (nI N) mn K)) rfl
    refine cu_callI (va_runV (As := [.int (nI i), .int 13]) (rest := []) ⟨hx, hb, hml, hown, hts⟩ ((m_X2_sh l D C o r q th N hN mn K i 13 hi (by decide) (K i 13) rfl) H.size) (cwV 2 hts gX2_isShut_X2_sh rfl rfl rfl (by decide +kernel) ⟨Nat.le_of_ble_eq_true rfl, Nat.le_of_ble_eq_true rfl⟩) (cu_preV (ci := 2) sp hG hP hD rfl rfl) rfl rfl hl.1 rfl (lv_room (Nat.le_of_ble_eq_true rfl)) dX2_isShut_19 ⟨Nat.le_of_ble_eq_true rfl, Nat.le_of_ble_eq_true rfl⟩) sp hP hD hS hA (fun H locs hP hD hS => ?_)
    have hP : va_P D vwCl (cu_mw C o r q th (nI N) mn K) H := hP
    have hD : va_D A (cu_mw C o r q th (nI N) mn K) := hD
    refine lv_sipush (v := 720) hx hb dX2_isShut_22 (by decide) ?_
    refine lv_iadd hx hb dX2_isShut_25 ?_
    refine lv_iload_n hx hb dX2_isShut_26 rfl (lv_at hl 0 rfl) ?_
    refine lv_isub hx hb dX2_isShut_27 ?_
    refine lv_sipush (v := 720) hx hb dX2_isShut_28 (by decide) ?_
    refine lv_irem hx hb dX2_isShut_31 (by decide) ?_
    refine lv_istore_n (lv' := [(3, .int ((((K i 13) + 720) - (K i 12)) - (((K i 13) + 720) - (K i 12)) / 720 * 720)), (2, .int (K i 12)), (0, .ref o), (1, .int (nI i))]) hx hb dX2_isShut_32 rfl hl (by decide) rfl (fun ls hl => ?_)
    refine lv_iload_n hx hb dX2_isShut_33 rfl (lv_at hl 0 rfl) ?_
    refine lv_if_eq (tgt := 57) hx hb dX2_isShut_34 (by decide) (fun c_34 => ?_) (fun c_34 => ?_)
    · refine lv_iconst (v := 1) hx hb dX2_isShut_57 (by decide) ?_
      refine lv_goto (tgt := 62) hx hb dX2_isShut_58 (by decide) ?_
      exact fin _ _ _ _ _ (by decide) (by rw [← k_shut_M hok]; simp only [k_shutM, if_neg c_10, if_pos c_34]) hP hS dX2_isShut_62
    · refine lv_aload_n hx hb dX2_isShut_37 rfl (lv_at hl 2 rfl) ?_
      refine lv_iload_n hx hb dX2_isShut_38 rfl (lv_at hl 3 rfl) ?_
      refine lv_iconst (v := 0) hx hb dX2_isShut_39 (by decide) ?_
      have sp := cu_sp.all (W0 := (cu_mw C o r q th (nI N) mn K)) (W1 := (cu_mw C o r q th (nI N) mn K)) rfl
      refine cu_callI (va_runV (As := [.int (nI i), .int 0]) (rest := []) ⟨hx, hb, hml, hown, hts⟩ ((m_X2_sh l D C o r q th N hN mn K i 0 hi (by decide) (K i 0) rfl) H.size) (cwV 2 hts gX2_isShut_X2_sh rfl rfl rfl (by decide +kernel) ⟨Nat.le_of_ble_eq_true rfl, Nat.le_of_ble_eq_true rfl⟩) (cu_preV (ci := 2) sp hG hP hD rfl rfl) rfl rfl hl.1 rfl (lv_room (Nat.le_of_ble_eq_true rfl)) dX2_isShut_40 ⟨Nat.le_of_ble_eq_true rfl, Nat.le_of_ble_eq_true rfl⟩) sp hP hD hS hA (fun H locs hP hD hS => ?_)
      have hP : va_P D vwCl (cu_mw C o r q th (nI N) mn K) H := hP
      have hD : va_D A (cu_mw C o r q th (nI N) mn K) := hD
      refine lv_sipush (v := 720) hx hb dX2_isShut_43 (by decide) ?_
      refine lv_iadd hx hb dX2_isShut_46 ?_
      refine lv_iload_n hx hb dX2_isShut_47 rfl (lv_at hl 1 rfl) ?_
      refine lv_isub hx hb dX2_isShut_48 ?_
      refine lv_sipush (v := 720) hx hb dX2_isShut_49 (by decide) ?_
      refine lv_irem hx hb dX2_isShut_52 (by decide) ?_
      refine lv_iload_n hx hb dX2_isShut_53 rfl (lv_at hl 0 rfl) ?_
      refine lv_icmp_ge (tgt := 61) hx hb dX2_isShut_54 (by decide) (fun c_54 => ?_) (fun c_54 => ?_)
      · refine lv_iconst (v := 0) hx hb dX2_isShut_61 (by decide) ?_
        exact fin _ _ _ _ _ (by decide) (by rw [← k_shut_M hok]; simp only [k_shutM, if_neg c_10, if_neg c_34, if_pos c_54]) hP hS dX2_isShut_62
      · refine lv_iconst (v := 1) hx hb dX2_isShut_57 (by decide) ?_
        refine lv_goto (tgt := 62) hx hb dX2_isShut_58 (by decide) ?_
        exact fin _ _ _ _ _ (by decide) (by rw [← k_shut_M hok]; simp only [k_shutM, if_neg c_10, if_neg c_34, if_neg c_54]) hP hS dX2_isShut_62
  · refine lv_iconst (v := 0) hx hb dX2_isShut_13 (by decide) ?_
    exact fin _ _ _ _ _ (by decide) (by rw [← k_shut_M hok]; simp only [k_shutM, if_pos c_10]) hP hS dX2_isShut_14
