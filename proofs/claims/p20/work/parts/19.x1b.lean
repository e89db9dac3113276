set_option maxHeartbeats 4000000 in
set_option maxRecDepth 100000 in
theorem m_X1_checkClock (l : Launch) (hlf : l.stackTraces = false) (D : va_G) (C : Nat → ClassId) (a : Nat → Nat) (N : Nat) (hN : N ≤ 10) (mn : Int32) (K P : Nat → Nat → Int32) (v1 : Int32) : cu_XV l D C yX1_checkClock wsX1_checkClock { frames := 6, cells := 1, slots := 6, locals := 82 } [.ref (a 0), .int v1] (cu_cw C a (nI N) mn K P) (cu_cw C a (nI N) mn K P) (k_oC N v1) 1 6 := by
  refine cu_openXV (cc := cX1_checkClock) (maxL := 2) hlf (by decide) rfl rfl (Nat.le_of_ble_eq_true rfl) ?_
  intro p e s m args below meth c A Z H0 ls e0 hx hb hml hts hown hnm hG hP hD hS hA hl hT fin thr prop
  have hK := hG.1
  have hl : lv_has ls 2 [(0, .ref (a 0)), (1, .int v1)] := hl
  have hiX1 : ∀ w ∈ wsX10, w ∈ wsX1_checkClock := by decide +kernel
  refine lv_iload_n hx hb dX1_checkClock_0 rfl (lv_at hl 1 rfl) ?_
  refine lv_if_lt (tgt := 12) hx hb dX1_checkClock_1 (by decide) (fun c_1 => ?_) (fun c_1 => ?_)
  · exact thr x_IOB "there is no such clock" 86 146 90 _ _ 12 _ _ _ _ cu_th_IOB (hts (.classLink RX1 86 x_IOB) (by decide +kernel)) (hts (.initialized x_IOB) (by decide +kernel)) (by decide +kernel) (by decide +kernel) hS hl.1 dX1_checkClock_12 dX1_checkClock_15 dX1_checkClock_16 dX1_checkClock_18 dX1_checkClock_21 (Nat.le_of_ble_eq_true rfl) (Nat.le_of_ble_eq_true rfl) (Nat.le_of_ble_eq_true rfl) (Nat.le_of_ble_eq_true rfl) (Nat.le_of_ble_eq_true rfl) (Nat.le_of_ble_eq_true rfl) (by simp only [k_oC, if_pos c_1, Option.none_or, Option.some_or, reduceIte]) hP
  · refine lv_iload_n hx hb dX1_checkClock_4 rfl (lv_at hl 1 rfl) ?_
    refine lv_aload_n hx hb dX1_checkClock_5 rfl (lv_at hl 0 rfl) ?_
    refine va_get (D := D) (ci := 1) (v := .int (nI N)) (C := RX1) (T := TX1) (N := 4) hx hb hts hiX1 hown hK hP 0 rfl rfl 2 (by decide) (hts (.fieldLink RX1 19 "CuckooShop" "present" "I") (by decide +kernel)) (fun _ h9 => h9) rfl dX1_checkClock_6 ?_
    refine lv_icmp_lt (tgt := 22) hx hb dX1_checkClock_9 (by decide) (fun c_9 => ?_) (fun c_9 => ?_)
    · refine W.widen (k := 1) (n := 6) (Nat.le_of_ble_eq_true rfl) (Nat.le_of_ble_eq_true rfl) ?_
      exact fin _ _ _ _ (by simp only [k_oC, if_neg c_1, if_pos c_9, Option.none_or, Option.some_or, reduceIte]) hP hS dX1_checkClock_22
    · exact thr x_IOB "there is no such clock" 86 146 90 _ _ 12 _ _ _ _ cu_th_IOB (hts (.classLink RX1 86 x_IOB) (by decide +kernel)) (hts (.initialized x_IOB) (by decide +kernel)) (by decide +kernel) (by decide +kernel) hS hl.1 dX1_checkClock_12 dX1_checkClock_15 dX1_checkClock_16 dX1_checkClock_18 dX1_checkClock_21 (Nat.le_of_ble_eq_true rfl) (Nat.le_of_ble_eq_true rfl) (Nat.le_of_ble_eq_true rfl) (Nat.le_of_ble_eq_true rfl) (Nat.le_of_ble_eq_true rfl) (Nat.le_of_ble_eq_true rfl) (by simp only [k_oC, if_neg c_1, if_neg c_9, Option.none_or, Option.some_or, reduceIte]) hP

set_option maxHeartbeats 4000000 in
set_option maxRecDepth 100000 in
theorem m_X1_checkTime (l : Launch) (hlf : l.stackTraces = false) (D : va_G) (C : Nat → ClassId) (v1 : Int32) : cu_XV l D C yX1_checkTime wsX1_checkTime { frames := 6, cells := 1, slots := 6, locals := 82 } [.int v1] ([] : va_W) ([] : va_W) (k_oT v1) 1 6 := by
  refine cu_openXV (cc := cX1_checkTime) (maxL := 1) hlf (by decide) rfl rfl (Nat.le_of_ble_eq_true rfl) ?_
  intro p e s m args below meth c A Z H0 ls e0 hx hb hml hts hown hnm hG hP hD hS hA hl hT fin thr prop
  have hK := hG.1
  have hl : lv_has ls 1 [(0, .int v1)] := hl
  refine lv_iload_n hx hb dX1_checkTime_0 rfl (lv_at hl 0 rfl) ?_
  refine lv_iconst (v := 0) hx hb dX1_checkTime_1 (by decide) ?_
  refine lv_sipush (v := 719) hx hb dX1_checkTime_2 (by decide) ?_
  have sp := cu_sp.nil (W0 := ([] : va_W))
  refine cu_callI (va_runS (As := [.int v1, .int 0, .int 719]) (rest := []) ⟨hx, hb, hml, hown, hts⟩ ((m_X1_isWithin l D C v1 0 719) H0.size) (va_cwS 3 hts gX1_checkTime_X1_isWithin rfl rfl rfl (by decide +kernel) ⟨Nat.le_of_ble_eq_true rfl, Nat.le_of_ble_eq_true rfl⟩) (cu_preS sp hG hP hD) rfl rfl hl.1 rfl (lv_room (Nat.le_of_ble_eq_true rfl)) dX1_checkTime_5 ⟨Nat.le_of_ble_eq_true rfl, Nat.le_of_ble_eq_true rfl⟩) sp hP hD hS hA (fun H locs hP hD hS => ?_)
  refine lv_if_ne (tgt := 21) hx hb dX1_checkTime_8 (by decide) (fun c_8 => ?_) (fun c_8 => ?_)
  · refine W.widen (k := 1) (n := 6) (Nat.le_of_ble_eq_true rfl) (Nat.le_of_ble_eq_true rfl) ?_
    exact fin _ _ _ _ (by simp only [k_oT, if_neg c_8, Option.none_or, Option.some_or, reduceIte]) hP hS dX1_checkTime_21
  · exact thr x_IAE "a time of the dial is 0 to 719" 47 148 51 _ _ 11 _ _ _ _ cu_th_IAE (hts (.classLink RX1 47 x_IAE) (by decide +kernel)) (hts (.initialized x_IAE) (by decide +kernel)) (by decide +kernel) (by decide +kernel) hS hl.1 dX1_checkTime_11 dX1_checkTime_14 dX1_checkTime_15 dX1_checkTime_17 dX1_checkTime_20 (Nat.le_of_ble_eq_true rfl) (Nat.le_of_ble_eq_true rfl) (Nat.le_of_ble_eq_true rfl) (Nat.le_of_ble_eq_true rfl) (Nat.le_of_ble_eq_true rfl) (Nat.le_of_ble_eq_true rfl) (by simp only [k_oT, if_pos c_8, Option.none_or, Option.some_or, reduceIte]) hP

set_option maxHeartbeats 4000000 in
set_option maxRecDepth 100000 in
theorem m_X1_checkMinutes (l : Launch) (hlf : l.stackTraces = false) (D : va_G) (C : Nat → ClassId) (v1 : Int32) : cu_XV l D C yX1_checkMinutes wsX1_checkMinutes { frames := 6, cells := 1, slots := 6, locals := 82 } [.int v1] ([] : va_W) ([] : va_W) (k_oM v1) 1 6 := by
  refine cu_openXV (cc := cX1_checkMinutes) (maxL := 1) hlf (by decide) rfl rfl (Nat.le_of_ble_eq_true rfl) ?_
  intro p e s m args below meth c A Z H0 ls e0 hx hb hml hts hown hnm hG hP hD hS hA hl hT fin thr prop
  have hK := hG.1
  have hl : lv_has ls 1 [(0, .int v1)] := hl
  refine lv_iload_n hx hb dX1_checkMinutes_0 rfl (lv_at hl 0 rfl) ?_
  refine lv_iconst (v := 1) hx hb dX1_checkMinutes_1 (by decide) ?_
  refine lv_sipush (v := 720) hx hb dX1_checkMinutes_2 (by decide) ?_
  have sp := cu_sp.nil (W0 := ([] : va_W))
  refine cu_callI (va_runS (As := [.int v1, .int 1, .int 720]) (rest := []) ⟨hx, hb, hml, hown, hts⟩ ((m_X1_isWithin l D C v1 1 720) H0.size) (va_cwS 3 hts gX1_checkMinutes_X1_isWithin rfl rfl rfl (by decide +kernel) ⟨Nat.le_of_ble_eq_true rfl, Nat.le_of_ble_eq_true rfl⟩) (cu_preS sp hG hP hD) rfl rfl hl.1 rfl (lv_room (Nat.le_of_ble_eq_true rfl)) dX1_checkMinutes_5 ⟨Nat.le_of_ble_eq_true rfl, Nat.le_of_ble_eq_true rfl⟩) sp hP hD hS hA (fun H locs hP hD hS => ?_)
  refine lv_if_ne (tgt := 21) hx hb dX1_checkMinutes_8 (by decide) (fun c_8 => ?_) (fun c_8 => ?_)
  · refine W.widen (k := 1) (n := 6) (Nat.le_of_ble_eq_true rfl) (Nat.le_of_ble_eq_true rfl) ?_
    exact fin _ _ _ _ (by simp only [k_oM, if_neg c_8, Option.none_or, Option.some_or, reduceIte]) hP hS dX1_checkMinutes_21
  · exact thr x_IAE "minutes are 1 to 720" 47 150 51 _ _ 11 _ _ _ _ cu_th_IAE (hts (.classLink RX1 47 x_IAE) (by decide +kernel)) (hts (.initialized x_IAE) (by decide +kernel)) (by decide +kernel) (by decide +kernel) hS hl.1 dX1_checkMinutes_11 dX1_checkMinutes_14 dX1_checkMinutes_15 dX1_checkMinutes_17 dX1_checkMinutes_20 (Nat.le_of_ble_eq_true rfl) (Nat.le_of_ble_eq_true rfl) (Nat.le_of_ble_eq_true rfl) (Nat.le_of_ble_eq_true rfl) (Nat.le_of_ble_eq_true rfl) (Nat.le_of_ble_eq_true rfl) (by simp only [k_oM, if_pos c_8, Option.none_or, Option.some_or, reduceIte]) hP

set_option maxHeartbeats 4000000 in
set_option maxRecDepth 100000 in
theorem m_X1_wind (l : Launch) (hlf : l.stackTraces = false) (D : va_G) (C : Nat → ClassId) (a : Nat → Nat) (N : Nat) (hN : N ≤ 10) (mn : Int32) (K P : Nat → Nat → Int32) (v1 : Int32) : cu_XI l D C yX1_wind wsX1_wind { frames := 7, cells := 1, slots := 6, locals := 103 } [.ref (a 0), .int v1] (cu_cw C a (nI N) mn K P) (cu_cw C a (nI N) mn (va_up K v1.toNatClampNeg (upd (upd (K v1.toNatClampNeg) 2 600) 5 1)) P) (k_oC N v1) (600 - K v1.toNatClampNeg 2) 1 6 := by
  refine cu_openXI (cc := cX1_wind) (maxL := 2) (ty := .int) hlf (by decide) rfl rfl (Nat.le_of_ble_eq_true rfl) ?_
  intro p e s m args below meth c A Z H0 ls e0 hx hb hml hts hown hnm hG hP hD hS hA hl hT fin thr prop
  have hK := hG.1
  have hl : lv_has ls 2 [(0, .ref (a 0)), (1, .int v1)] := hl
  have hiX1 : ∀ w ∈ wsX10, w ∈ wsX1_wind := by decide +kernel
  refine lv_aload_n hx hb dX1_wind_0 rfl (lv_at hl 0 rfl) ?_
  refine lv_iload_n hx hb dX1_wind_1 rfl (lv_at hl 1 rfl) ?_
  have sp := cu_sp.all (W0 := (cu_cw C a (nI N) mn K P)) (W1 := (cu_cw C a (nI N) mn K P)) rfl
  refine cu_callXV (vx_runV (As := [.int v1]) (rest := []) ⟨hx, hb, hml, hown, hts⟩ ((m_X1_checkClock l hlf D C a N hN mn K P v1) H0.size) (cwV 1 hts gX1_wind_X1_checkClock rfl rfl rfl (by decide +kernel) ⟨Nat.le_of_ble_eq_true rfl, Nat.le_of_ble_eq_true rfl⟩) (cu_preXV (ci := 1) sp hG hP hD hT hS hA rfl rfl) rfl rfl hl.1 rfl (lv_room (Nat.le_of_ble_eq_true rfl)) dX1_wind_2 ⟨Nat.le_of_ble_eq_true rfl, Nat.le_of_ble_eq_true rfl⟩) sp hP hD hS hA (fun E ce q9 H locs hoE hP hS hce hcv hcl => prop E ce q9 H locs _ _ _ _ _ (by simp only [hoE, Option.none_or, Option.some_or, reduceIte]) hP hS hce hcv hcl (Nat.le_of_ble_eq_true rfl) (Nat.le_of_ble_eq_true rfl)) (fun H locs ho_2 hP hD hS => ?_)
  obtain ⟨i, hiN, rfl⟩ := k_oC_in hN ho_2
  have hi : i < 10 := by omega
  have hcl9 : (nI i).toNatClampNeg = i := nI_clamp (by omega)
  have hP : va_P D vwCl (cu_cw C a (nI N) mn K P) H := hP
  have hD : va_D A (cu_cw C a (nI N) mn K P) := hD
  refine lv_aload_n hx hb dX1_wind_5 rfl (lv_at hl 0 rfl) ?_
  refine va_get (D := D) (ci := 1) (v := .ref (a 1)) (C := RX1) (T := TX1) (N := 4) hx hb hts hiX1 hown hK hP 0 rfl rfl 0 (by decide) (hts (.fieldLink RX1 11 "CuckooShop" "clocks" "[LCuckooShop$Clock;") (by decide +kernel)) (fun _ h9 => h9) rfl dX1_wind_6 ?_
  refine lv_iload_n hx hb dX1_wind_9 rfl (lv_at hl 1 rfl) ?_
  refine cu_aaldK hi hx hb hK hP dX1_wind_10 ?_
  have sp := cu_spK (C := C) (a := a) (n := (nI N)) (m := mn) (K := K) (P := P) hi (upd (upd (K i) 2 600) 5 1)
  refine cu_callI (va_runVN (As := []) (rest := []) ⟨hx, hb, hml, hown, hts⟩ ((m_X0_drawUp l D C (a (3 + i)) (K i)) H.size) ⟨(va_cnB 0 hts gX1_wind_X0_drawUp_n66 rfl rfl rfl (hG.2.1 (66, yX0_drawUp) (by decide +kernel)) (hts (.initialized RX0) (by decide +kernel)) (by decide +kernel) ⟨Nat.le_of_ble_eq_true rfl, Nat.le_of_ble_eq_true rfl⟩), hts (.instanceMethod yX0_drawUp) (by decide +kernel), hts (.selects RX0 yX0_drawUp yX0_drawUp) (by decide +kernel)⟩ (cu_preV (ci := 0) sp hG hP hD rfl rfl) rfl rfl hl.1 rfl (lv_room (Nat.le_of_ble_eq_true rfl)) dX1_wind_11 ⟨Nat.le_of_ble_eq_true rfl, Nat.le_of_ble_eq_true rfl⟩) sp hP hD hS hA (fun H locs hP hD hS => ?_)
  have hP : va_P D vwCl (cu_cw C a (nI N) mn (va_up K i (upd (upd (K i) 2 600) 5 1)) P) H := hP
  have hD : va_D A (cu_cw C a (nI N) mn (va_up K i (upd (upd (K i) 2 600) 5 1)) P) := hD
  refine W.widen (k := 1) (n := 6) (Nat.le_of_ble_eq_true rfl) (Nat.le_of_ble_eq_true rfl) ?_
  exact fin _ _ _ _ _ rfl (by simp only [ho_2, Option.none_or, Option.some_or, reduceIte]) (by simp only [hcl9]) (by rw [hcl9]; exact hP) hS dX1_wind_14

set_option maxHeartbeats 4000000 in
set_option maxRecDepth 100000 in
theorem m_X1_stands (l : Launch) (hlf : l.stackTraces = false) (D : va_G) (C : Nat → ClassId) (a : Nat → Nat) (N : Nat) (hN : N ≤ 10) (mn : Int32) (K P : Nat → Nat → Int32) (v1 : Int32) : cu_XI l D C yX1_stands wsX1_stands { frames := 7, cells := 1, slots := 6, locals := 103 } [.ref (a 0), .int v1] (cu_cw C a (nI N) mn K P) (cu_cw C a (nI N) mn K P) (k_oC N v1) (k_stand (K v1.toNatClampNeg)) 1 6 := by
  refine cu_openXI (cc := cX1_stands) (maxL := 2) (ty := .int) hlf (by decide) rfl rfl (Nat.le_of_ble_eq_true rfl) ?_
  intro p e s m args below meth c A Z H0 ls e0 hx hb hml hts hown hnm hG hP hD hS hA hl hT fin thr prop
  have hK := hG.1
  have hl : lv_has ls 2 [(0, .ref (a 0)), (1, .int v1)] := hl
  have hiX1 : ∀ w ∈ wsX10, w ∈ wsX1_stands := by decide +kernel
  refine lv_aload_n hx hb dX1_stands_0 rfl (lv_at hl 0 rfl) ?_
  refine lv_iload_n hx hb dX1_stands_1 rfl (lv_at hl 1 rfl) ?_
  have sp := cu_sp.all (W0 := (cu_cw C a (nI N) mn K P)) (W1 := (cu_cw C a (nI N) mn K P)) rfl
  refine cu_callXV (vx_runV (As := [.int v1]) (rest := []) ⟨hx, hb, hml, hown, hts⟩ ((m_X1_checkClock l hlf D C a N hN mn K P v1) H0.size) (cwV 1 hts gX1_stands_X1_checkClock rfl rfl rfl (by decide +kernel) ⟨Nat.le_of_ble_eq_true rfl, Nat.le_of_ble_eq_true rfl⟩) (cu_preXV (ci := 1) sp hG hP hD hT hS hA rfl rfl) rfl rfl hl.1 rfl (lv_room (Nat.le_of_ble_eq_true rfl)) dX1_stands_2 ⟨Nat.le_of_ble_eq_true rfl, Nat.le_of_ble_eq_true rfl⟩) sp hP hD hS hA (fun E ce q9 H locs hoE hP hS hce hcv hcl => prop E ce q9 H locs _ _ _ _ _ (by simp only [hoE, Option.none_or, Option.some_or, reduceIte]) hP hS hce hcv hcl (Nat.le_of_ble_eq_true rfl) (Nat.le_of_ble_eq_true rfl)) (fun H locs ho_2 hP hD hS => ?_)
  obtain ⟨i, hiN, rfl⟩ := k_oC_in hN ho_2
  have hi : i < 10 := by omega
  have hcl9 : (nI i).toNatClampNeg = i := nI_clamp (by omega)
  have hP : va_P D vwCl (cu_cw C a (nI N) mn K P) H := hP
  have hD : va_D A (cu_cw C a (nI N) mn K P) := hD
  refine lv_aload_n hx hb dX1_stands_5 rfl (lv_at hl 0 rfl) ?_
  refine va_get (D := D) (ci := 1) (v := .ref (a 1)) (C := RX1) (T := TX1) (N := 4) hx hb hts hiX1 hown hK hP 0 rfl rfl 0 (by decide) (hts (.fieldLink RX1 11 "CuckooShop" "clocks" "[LCuckooShop$Clock;") (by decide +kernel)) (fun _ h9 => h9) rfl dX1_stands_6 ?_
  refine lv_iload_n hx hb dX1_stands_9 rfl (lv_at hl 1 rfl) ?_
  refine cu_aaldK hi hx hb hK hP dX1_stands_10 ?_
  have sp := cu_sp.rd (cu_cw_K (C := C) (a := a) (n := (nI N)) (m := mn) (K := K) (P := P) hi)
  refine cu_callI (va_runVN (As := []) (rest := []) ⟨hx, hb, hml, hown, hts⟩ ((m_X0_minutesToStand l D C (a (3 + i)) (K i)) H.size) ⟨(va_cnB 0 hts gX1_stands_X0_minutesToStand_n117 rfl rfl rfl (hG.2.1 (117, yX0_minutesToStand) (by decide +kernel)) (hts (.initialized RX0) (by decide +kernel)) (by decide +kernel) ⟨Nat.le_of_ble_eq_true rfl, Nat.le_of_ble_eq_true rfl⟩), hts (.instanceMethod yX0_minutesToStand) (by decide +kernel), hts (.selects RX0 yX0_minutesToStand yX0_minutesToStand) (by decide +kernel)⟩ (cu_preV (ci := 0) sp hG hP hD rfl rfl) rfl rfl hl.1 rfl (lv_room (Nat.le_of_ble_eq_true rfl)) dX1_stands_11 ⟨Nat.le_of_ble_eq_true rfl, Nat.le_of_ble_eq_true rfl⟩) sp hP hD hS hA (fun H locs hP hD hS => ?_)
  have hP : va_P D vwCl (cu_cw C a (nI N) mn K P) H := hP
  have hD : va_D A (cu_cw C a (nI N) mn K P) := hD
  refine W.widen (k := 1) (n := 6) (Nat.le_of_ble_eq_true rfl) (Nat.le_of_ble_eq_true rfl) ?_
  exact fin _ _ _ _ _ rfl (by simp only [ho_2, Option.none_or, Option.some_or, reduceIte]) (by simp only [hcl9]) hP hS dX1_stands_14

set_option maxHeartbeats 4000000 in
set_option maxRecDepth 100000 in
theorem m_X1_off (l : Launch) (hlf : l.stackTraces = false) (D : va_G) (C : Nat → ClassId) (a : Nat → Nat) (N : Nat) (hN : N ≤ 10) (mn : Int32) (K P : Nat → Nat → Int32) (v1 : Int32) : cu_XI l D C yX1_off wsX1_off { frames := 7, cells := 1, slots := 6, locals := 103 } [.ref (a 0), .int v1] (cu_cw C a (nI N) mn K P) (cu_cw C a (nI N) mn K P) (k_oC N v1) (k_off (K v1.toNatClampNeg) mn) 1 6 := by
  refine cu_openXI (cc := cX1_off) (maxL := 2) (ty := .int) hlf (by decide) rfl rfl (Nat.le_of_ble_eq_true rfl) ?_
  intro p e s m args below meth c A Z H0 ls e0 hx hb hml hts hown hnm hG hP hD hS hA hl hT fin thr prop
  have hK := hG.1
  have hl : lv_has ls 2 [(0, .ref (a 0)), (1, .int v1)] := hl
  have hiX1 : ∀ w ∈ wsX10, w ∈ wsX1_off := by decide +kernel
  refine lv_aload_n hx hb dX1_off_0 rfl (lv_at hl 0 rfl) ?_
  refine lv_iload_n hx hb dX1_off_1 rfl (lv_at hl 1 rfl) ?_
  have sp := cu_sp.all (W0 := (cu_cw C a (nI N) mn K P)) (W1 := (cu_cw C a (nI N) mn K P)) rfl
  refine cu_callXV (vx_runV (As := [.int v1]) (rest := []) ⟨hx, hb, hml, hown, hts⟩ ((m_X1_checkClock l hlf D C a N hN mn K P v1) H0.size) (cwV 1 hts gX1_off_X1_checkClock rfl rfl rfl (by decide +kernel) ⟨Nat.le_of_ble_eq_true rfl, Nat.le_of_ble_eq_true rfl⟩) (cu_preXV (ci := 1) sp hG hP hD hT hS hA rfl rfl) rfl rfl hl.1 rfl (lv_room (Nat.le_of_ble_eq_true rfl)) dX1_off_2 ⟨Nat.le_of_ble_eq_true rfl, Nat.le_of_ble_eq_true rfl⟩) sp hP hD hS hA (fun E ce q9 H locs hoE hP hS hce hcv hcl => prop E ce q9 H locs _ _ _ _ _ (by simp only [hoE, Option.none_or, Option.some_or, reduceIte]) hP hS hce hcv hcl (Nat.le_of_ble_eq_true rfl) (Nat.le_of_ble_eq_true rfl)) (fun H locs ho_2 hP hD hS => ?_)
  obtain ⟨i, hiN, rfl⟩ := k_oC_in hN ho_2
  have hi : i < 10 := by omega
  have hcl9 : (nI i).toNatClampNeg = i := nI_clamp (by omega)
  have hP : va_P D vwCl (cu_cw C a (nI N) mn K P) H := hP
  have hD : va_D A (cu_cw C a (nI N) mn K P) := hD
  refine lv_aload_n hx hb dX1_off_5 rfl (lv_at hl 0 rfl) ?_
  refine va_get (D := D) (ci := 1) (v := .ref (a 1)) (C := RX1) (T := TX1) (N := 4) hx hb hts hiX1 hown hK hP 0 rfl rfl 0 (by decide) (hts (.fieldLink RX1 11 "CuckooShop" "clocks" "[LCuckooShop$Clock;") (by decide +kernel)) (fun _ h9 => h9) rfl dX1_off_6 ?_
  refine lv_iload_n hx hb dX1_off_9 rfl (lv_at hl 1 rfl) ?_
  refine cu_aaldK hi hx hb hK hP dX1_off_10 ?_
  refine lv_aload_n hx hb dX1_off_11 rfl (lv_at hl 0 rfl) ?_
  refine va_get (D := D) (ci := 1) (v := .int mn) (C := RX1) (T := TX1) (N := 4) hx hb hts hiX1 hown hK hP 0 rfl rfl 3 (by decide) (hts (.fieldLink RX1 23 "CuckooShop" "minute" "I") (by decide +kernel)) (fun _ h9 => h9) rfl dX1_off_12 ?_
  have sp := cu_sp.rd (cu_cw_K (C := C) (a := a) (n := (nI N)) (m := mn) (K := K) (P := P) hi)
  refine cu_callI (va_runS (As := [.ref (a (3 + i)), .int mn]) (rest := []) ⟨hx, hb, hml, hown, hts⟩ ((m_X1_offOf l D C (a (3 + i)) (K i) mn) H.size) (va_cwS 2 hts gX1_off_X1_offOf rfl rfl rfl (by decide +kernel) ⟨Nat.le_of_ble_eq_true rfl, Nat.le_of_ble_eq_true rfl⟩) (cu_preS sp hG hP hD) rfl rfl hl.1 rfl (lv_room (Nat.le_of_ble_eq_true rfl)) dX1_off_15 ⟨Nat.le_of_ble_eq_true rfl, Nat.le_of_ble_eq_true rfl⟩) sp hP hD hS hA (fun H locs hP hD hS => ?_)
  refine W.widen (k := 1) (n := 6) (Nat.le_of_ble_eq_true rfl) (Nat.le_of_ble_eq_true rfl) ?_
  exact fin _ _ _ _ _ rfl (by simp only [ho_2, Option.none_or, Option.some_or, reduceIte]) (by simp only [hcl9]) hP hS dX1_off_18

set_option maxHeartbeats 4000000 in
set_option maxRecDepth 100000 in
theorem m_X1_clock (l : Launch) (hlf : l.stackTraces = false) (D : va_G) (C : Nat → ClassId) (a : Nat → Nat) (N : Nat) (hN : N ≤ 10) (mn : Int32) (K P : Nat → Nat → Int32) (v1 : Int32) (v2 : Int32) : cu_XI l D C yX1_clock wsX1_clock { frames := 7, cells := 2, slots := 12, locals := 103 } [.ref (a 0), .int v1, .int v2] (cu_cw C a (nI N) mn K P) (cu_cw C a (nI N) mn K P) ((k_oC N v1).or (k_oR v2)) (k_read (K v1.toNatClampNeg) v2) 2 12 := by
  refine cu_openXI (cc := cX1_clock) (maxL := 3) (ty := .int) hlf (by decide) rfl rfl (Nat.le_of_ble_eq_true rfl) ?_
  intro p e s m args below meth c A Z H0 ls e0 hx hb hml hts hown hnm hG hP hD hS hA hl hT fin thr prop
  have hK := hG.1
  have hl : lv_has ls 3 [(0, .ref (a 0)), (1, .int v1), (2, .int v2)] := hl
  have hiX1 : ∀ w ∈ wsX10, w ∈ wsX1_clock := by decide +kernel
  refine lv_aload_n hx hb dX1_clock_0 rfl (lv_at hl 0 rfl) ?_
  refine lv_iload_n hx hb dX1_clock_1 rfl (lv_at hl 1 rfl) ?_
  have sp := cu_sp.all (W0 := (cu_cw C a (nI N) mn K P)) (W1 := (cu_cw C a (nI N) mn K P)) rfl
  refine cu_callXV (vx_runV (As := [.int v1]) (rest := []) ⟨hx, hb, hml, hown, hts⟩ ((m_X1_checkClock l hlf D C a N hN mn K P v1) H0.size) (cwV 1 hts gX1_clock_X1_checkClock rfl rfl rfl (by decide +kernel) ⟨Nat.le_of_ble_eq_true rfl, Nat.le_of_ble_eq_true rfl⟩) (cu_preXV (ci := 1) sp hG hP hD hT hS hA rfl rfl) rfl rfl hl.1 rfl (lv_room (Nat.le_of_ble_eq_true rfl)) dX1_clock_2 ⟨Nat.le_of_ble_eq_true rfl, Nat.le_of_ble_eq_true rfl⟩) sp hP hD hS hA (fun E ce q9 H locs hoE hP hS hce hcv hcl => prop E ce q9 H locs _ _ _ _ _ (by simp only [k_oR, hoE, Option.none_or, Option.some_or, reduceIte]) hP hS hce hcv hcl (Nat.le_of_ble_eq_true rfl) (Nat.le_of_ble_eq_true rfl)) (fun H locs ho_2 hP hD hS => ?_)
  obtain ⟨i, hiN, rfl⟩ := k_oC_in hN ho_2
  have hi : i < 10 := by omega
  have hcl9 : (nI i).toNatClampNeg = i := nI_clamp (by omega)
  have hP : va_P D vwCl (cu_cw C a (nI N) mn K P) H := hP
  have hD : va_D A (cu_cw C a (nI N) mn K P) := hD
  refine lv_iload_n hx hb dX1_clock_5 rfl (lv_at hl 2 rfl) ?_
  refine lv_iconst (v := 0) hx hb dX1_clock_6 (by decide) ?_
  refine lv_bipush (v := 10) hx hb dX1_clock_7 (by decide) ?_
  have sp := cu_sp.nil (W0 := (cu_cw C a (nI N) mn K P))
  refine cu_callI (va_runS (As := [.int v2, .int 0, .int 10]) (rest := []) ⟨hx, hb, hml, hown, hts⟩ ((m_X1_isWithin l D C v2 0 10) H.size) (va_cwS 3 hts gX1_clock_X1_isWithin rfl rfl rfl (by decide +kernel) ⟨Nat.le_of_ble_eq_true rfl, Nat.le_of_ble_eq_true rfl⟩) (cu_preS sp hG hP hD) rfl rfl hl.1 rfl (lv_room (Nat.le_of_ble_eq_true rfl)) dX1_clock_9 ⟨Nat.le_of_ble_eq_true rfl, Nat.le_of_ble_eq_true rfl⟩) sp hP hD hS hA (fun H locs hP hD hS => ?_)
  refine lv_if_ne (tgt := 25) hx hb dX1_clock_12 (by decide) (fun c_12 => ?_) (fun c_12 => ?_)
  · refine lv_aload_n hx hb dX1_clock_25 rfl (lv_at hl 0 rfl) ?_
    refine va_get (D := D) (ci := 1) (v := .ref (a 1)) (C := RX1) (T := TX1) (N := 4) hx hb hts hiX1 hown hK hP 0 rfl rfl 0 (by decide) (hts (.fieldLink RX1 11 "CuckooShop" "clocks" "[LCuckooShop$Clock;") (by decide +kernel)) (fun _ h9 => h9) rfl dX1_clock_26 ?_
    refine lv_iload_n hx hb dX1_clock_29 rfl (lv_at hl 1 rfl) ?_
    refine cu_aaldK hi hx hb hK hP dX1_clock_30 ?_
    refine lv_iload_n hx hb dX1_clock_31 rfl (lv_at hl 2 rfl) ?_
    have sp := cu_sp.rd (cu_cw_K (C := C) (a := a) (n := (nI N)) (m := mn) (K := K) (P := P) hi)
    refine cu_callI (va_runVN (As := [.int v2]) (rest := []) ⟨hx, hb, hml, hown, hts⟩ ((m_X0_reading l D C (a (3 + i)) (K i) v2) H.size) ⟨(va_cnB 1 hts gX1_clock_X0_reading_n91 rfl rfl rfl (hG.2.1 (91, yX0_reading) (by decide +kernel)) (hts (.initialized RX0) (by decide +kernel)) (by decide +kernel) ⟨Nat.le_of_ble_eq_true rfl, Nat.le_of_ble_eq_true rfl⟩), hts (.instanceMethod yX0_reading) (by decide +kernel), hts (.selects RX0 yX0_reading yX0_reading) (by decide +kernel)⟩ (cu_preV (ci := 0) sp hG hP hD rfl rfl) rfl rfl hl.1 rfl (lv_room (Nat.le_of_ble_eq_true rfl)) dX1_clock_32 ⟨Nat.le_of_ble_eq_true rfl, Nat.le_of_ble_eq_true rfl⟩) sp hP hD hS hA (fun H locs hP hD hS => ?_)
    have hP : va_P D vwCl (cu_cw C a (nI N) mn K P) H := hP
    have hD : va_D A (cu_cw C a (nI N) mn K P) := hD
    refine W.widen (k := 2) (n := 12) (Nat.le_of_ble_eq_true rfl) (Nat.le_of_ble_eq_true rfl) ?_
    exact fin _ _ _ _ _ rfl (by simp only [k_oR, ho_2, if_neg c_12, Option.none_or, Option.some_or, reduceIte]) (by simp only [hcl9]) hP hS dX1_clock_35
  · exact thr x_IOB "what is told of a clock is 0 to 10" 86 88 90 _ _ 15 _ _ _ _ cu_th_IOB (hts (.classLink RX1 86 x_IOB) (by decide +kernel)) (hts (.initialized x_IOB) (by decide +kernel)) (by decide +kernel) (by decide +kernel) hS hl.1 dX1_clock_15 dX1_clock_18 dX1_clock_19 dX1_clock_21 dX1_clock_24 (Nat.le_of_ble_eq_true rfl) (Nat.le_of_ble_eq_true rfl) (Nat.le_of_ble_eq_true rfl) (Nat.le_of_ble_eq_true rfl) (Nat.le_of_ble_eq_true rfl) (Nat.le_of_ble_eq_true rfl) (by simp only [k_oR, ho_2, if_pos c_12, Option.none_or, Option.some_or, reduceIte]) hP

set_option maxHeartbeats 4000000 in
set_option maxRecDepth 100000 in
theorem m_X1_gear (l : Launch) (hlf : l.stackTraces = false) (D : va_G) (C : Nat → ClassId) (a : Nat → Nat) (N : Nat) (hN : N ≤ 10) (mn : Int32) (K P : Nat → Nat → Int32) (v1 : Int32) (v2 : Int32) (v3 : Int32) (v4 : Int32) : cu_XI l D C yX1_gear wsX1_gear { frames := 7, cells := 2, slots := 12, locals := 103 } [.ref (a 0), .int v1, .int v2, .int v3, .int v4] (cu_cw C a (nI N) mn K P) (cu_cw C a (nI N) mn (va_up K v1.toNatClampNeg (upd (upd (upd (K v1.toNatClampNeg) 9 v2) 10 v3) 11 v4)) P) ((k_oC N v1).or (k_oG v2 v3 v4)) (k_adv (upd (upd (upd (K v1.toNatClampNeg) 9 v2) 10 v3) 11 v4)) 2 12 := by
  refine cu_openXI (cc := cX1_gear) (maxL := 5) (ty := .int) hlf (by decide) rfl rfl (Nat.le_of_ble_eq_true rfl) ?_
  intro p e s m args below meth c A Z H0 ls e0 hx hb hml hts hown hnm hG hP hD hS hA hl hT fin thr prop
  have hK := hG.1
  have hl : lv_has ls 5 [(0, .ref (a 0)), (1, .int v1), (2, .int v2), (3, .int v3), (4, .int v4)] := hl
  have hiX1 : ∀ w ∈ wsX10, w ∈ wsX1_gear := by decide +kernel
  refine lv_aload_n hx hb dX1_gear_0 rfl (lv_at hl 0 rfl) ?_
  refine lv_iload_n hx hb dX1_gear_1 rfl (lv_at hl 1 rfl) ?_
  have sp := cu_sp.all (W0 := (cu_cw C a (nI N) mn K P)) (W1 := (cu_cw C a (nI N) mn K P)) rfl
  refine cu_callXV (vx_runV (As := [.int v1]) (rest := []) ⟨hx, hb, hml, hown, hts⟩ ((m_X1_checkClock l hlf D C a N hN mn K P v1) H0.size) (cwV 1 hts gX1_gear_X1_checkClock rfl rfl rfl (by decide +kernel) ⟨Nat.le_of_ble_eq_true rfl, Nat.le_of_ble_eq_true rfl⟩) (cu_preXV (ci := 1) sp hG hP hD hT hS hA rfl rfl) rfl rfl hl.1 rfl (lv_room (Nat.le_of_ble_eq_true rfl)) dX1_gear_2 ⟨Nat.le_of_ble_eq_true rfl, Nat.le_of_ble_eq_true rfl⟩) sp hP hD hS hA (fun E ce q9 H locs hoE hP hS hce hcv hcl => prop E ce q9 H locs _ _ _ _ _ (by simp only [k_oG, hoE, Option.none_or, Option.some_or, reduceIte]) hP hS hce hcv hcl (Nat.le_of_ble_eq_true rfl) (Nat.le_of_ble_eq_true rfl)) (fun H locs ho_2 hP hD hS => ?_)
  obtain ⟨i, hiN, rfl⟩ := k_oC_in hN ho_2
  have hi : i < 10 := by omega
  have hcl9 : (nI i).toNatClampNeg = i := nI_clamp (by omega)
  have hP : va_P D vwCl (cu_cw C a (nI N) mn K P) H := hP
  have hD : va_D A (cu_cw C a (nI N) mn K P) := hD
  refine lv_iload_n hx hb dX1_gear_5 rfl (lv_at hl 2 rfl) ?_
  refine lv_bipush (v := 20) hx hb dX1_gear_6 (by decide) ?_
  refine lv_bipush (v := 40) hx hb dX1_gear_8 (by decide) ?_
  have sp := cu_sp.nil (W0 := (cu_cw C a (nI N) mn K P))
  refine cu_callI (va_runS (As := [.int v2, .int 20, .int 40]) (rest := []) ⟨hx, hb, hml, hown, hts⟩ ((m_X1_isWithin l D C v2 20 40) H.size) (va_cwS 3 hts gX1_gear_X1_isWithin rfl rfl rfl (by decide +kernel) ⟨Nat.le_of_ble_eq_true rfl, Nat.le_of_ble_eq_true rfl⟩) (cu_preS sp hG hP hD) rfl rfl hl.1 rfl (lv_room (Nat.le_of_ble_eq_true rfl)) dX1_gear_10 ⟨Nat.le_of_ble_eq_true rfl, Nat.le_of_ble_eq_true rfl⟩) sp hP hD hS hA (fun H locs hP hD hS => ?_)
  refine lv_if_eq (tgt := 27) hx hb dX1_gear_13 (by decide) (fun c_13 => ?_) (fun c_13 => ?_)
  · exact thr x_IAE "a gear has 20 to 40 teeth" 47 49 51 _ _ 27 _ _ _ _ cu_th_IAE (hts (.classLink RX1 47 x_IAE) (by decide +kernel)) (hts (.initialized x_IAE) (by decide +kernel)) (by decide +kernel) (by decide +kernel) hS hl.1 dX1_gear_27 dX1_gear_30 dX1_gear_31 dX1_gear_33 dX1_gear_36 (Nat.le_of_ble_eq_true rfl) (Nat.le_of_ble_eq_true rfl) (Nat.le_of_ble_eq_true rfl) (Nat.le_of_ble_eq_true rfl) (Nat.le_of_ble_eq_true rfl) (Nat.le_of_ble_eq_true rfl) (by simp only [k_oG, ho_2, if_pos c_13, Option.none_or, Option.some_or, reduceIte]) hP
  · refine lv_iload_n hx hb dX1_gear_16 rfl (lv_at hl 3 rfl) ?_
    refine lv_bipush (v := 20) hx hb dX1_gear_17 (by decide) ?_
    refine lv_bipush (v := 40) hx hb dX1_gear_19 (by decide) ?_
    have sp := cu_sp.nil (W0 := (cu_cw C a (nI N) mn K P))
    refine cu_callI (va_runS (As := [.int v3, .int 20, .int 40]) (rest := []) ⟨hx, hb, hml, hown, hts⟩ ((m_X1_isWithin l D C v3 20 40) H.size) (va_cwS 3 hts gX1_gear_X1_isWithin rfl rfl rfl (by decide +kernel) ⟨Nat.le_of_ble_eq_true rfl, Nat.le_of_ble_eq_true rfl⟩) (cu_preS sp hG hP hD) rfl rfl hl.1 rfl (lv_room (Nat.le_of_ble_eq_true rfl)) dX1_gear_21 ⟨Nat.le_of_ble_eq_true rfl, Nat.le_of_ble_eq_true rfl⟩) sp hP hD hS hA (fun H locs hP hD hS => ?_)
    refine lv_if_ne (tgt := 37) hx hb dX1_gear_24 (by decide) (fun c_24 => ?_) (fun c_24 => ?_)
    · refine lv_iload hx hb dX1_gear_37 (lv_at hl 4 rfl) ?_
      refine lv_bipush (v := -20) hx hb dX1_gear_39 (by decide) ?_
      refine lv_bipush (v := 20) hx hb dX1_gear_41 (by decide) ?_
      have sp := cu_sp.nil (W0 := (cu_cw C a (nI N) mn K P))
      refine cu_callI (va_runS (As := [.int v4, .int (-20), .int 20]) (rest := []) ⟨hx, hb, hml, hown, hts⟩ ((m_X1_isWithin l D C v4 (-20) 20) H.size) (va_cwS 3 hts gX1_gear_X1_isWithin rfl rfl rfl (by decide +kernel) ⟨Nat.le_of_ble_eq_true rfl, Nat.le_of_ble_eq_true rfl⟩) (cu_preS sp hG hP hD) rfl rfl hl.1 rfl (lv_room (Nat.le_of_ble_eq_true rfl)) dX1_gear_43 ⟨Nat.le_of_ble_eq_true rfl, Nat.le_of_ble_eq_true rfl⟩) sp hP hD hS hA (fun H locs hP hD hS => ?_)
      refine lv_if_ne (tgt := 59) hx hb dX1_gear_46 (by decide) (fun c_46 => ?_) (fun c_46 => ?_)
      · refine lv_aload_n hx hb dX1_gear_59 rfl (lv_at hl 0 rfl) ?_
        refine va_get (D := D) (ci := 1) (v := .ref (a 1)) (C := RX1) (T := TX1) (N := 4) hx hb hts hiX1 hown hK hP 0 rfl rfl 0 (by decide) (hts (.fieldLink RX1 11 "CuckooShop" "clocks" "[LCuckooShop$Clock;") (by decide +kernel)) (fun _ h9 => h9) rfl dX1_gear_60 ?_
        refine lv_iload_n hx hb dX1_gear_63 rfl (lv_at hl 1 rfl) ?_
        refine cu_aaldK hi hx hb hK hP dX1_gear_64 ?_
        refine lv_iload_n hx hb dX1_gear_65 rfl (lv_at hl 2 rfl) ?_
        refine lv_iload_n hx hb dX1_gear_66 rfl (lv_at hl 3 rfl) ?_
        refine lv_iload hx hb dX1_gear_67 (lv_at hl 4 rfl) ?_
        have sp := cu_spK (C := C) (a := a) (n := (nI N)) (m := mn) (K := K) (P := P) hi (upd (upd (upd (K i) 9 v2) 10 v3) 11 v4)
        refine cu_callV (va_runVN (As := [.int v2, .int v3, .int v4]) (rest := []) ⟨hx, hb, hml, hown, hts⟩ ((m_X0_fitTrain l D C (a (3 + i)) (K i) v2 v3 v4) H.size) ⟨(va_cnB 3 hts gX1_gear_X0_fitTrain_n54 rfl rfl rfl (hG.2.1 (54, yX0_fitTrain) (by decide +kernel)) (hts (.initialized RX0) (by decide +kernel)) (by decide +kernel) ⟨Nat.le_of_ble_eq_true rfl, Nat.le_of_ble_eq_true rfl⟩), hts (.instanceMethod yX0_fitTrain) (by decide +kernel), hts (.selects RX0 yX0_fitTrain yX0_fitTrain) (by decide +kernel)⟩ (cu_preV (ci := 0) sp hG hP hD rfl rfl) rfl rfl hl.1 rfl (lv_room (Nat.le_of_ble_eq_true rfl)) dX1_gear_69 ⟨Nat.le_of_ble_eq_true rfl, Nat.le_of_ble_eq_true rfl⟩) sp hP hD hS hA (fun H locs hP hD hS => ?_)
        have hP : va_P D vwCl (cu_cw C a (nI N) mn (va_up K i (upd (upd (upd (K i) 9 v2) 10 v3) 11 v4)) P) H := hP
        have hD : va_D A (cu_cw C a (nI N) mn (va_up K i (upd (upd (upd (K i) 9 v2) 10 v3) 11 v4)) P) := hD
        refine lv_aload_n hx hb dX1_gear_72 rfl (lv_at hl 0 rfl) ?_
        refine va_get (D := D) (ci := 1) (v := .ref (a 1)) (C := RX1) (T := TX1) (N := 4) hx hb hts hiX1 hown hK hP 0 rfl rfl 0 (by decide) (hts (.fieldLink RX1 11 "CuckooShop" "clocks" "[LCuckooShop$Clock;") (by decide +kernel)) (fun _ h9 => h9) rfl dX1_gear_73 ?_
        refine lv_iload_n hx hb dX1_gear_76 rfl (lv_at hl 1 rfl) ?_
        refine cu_aaldK hi hx hb hK hP dX1_gear_77 ?_
        have sp := cu_sp.rd (cu_cw_K (C := C) (a := a) (n := (nI N)) (m := mn) (K := (va_up K i (upd (upd (upd (K i) 9 v2) 10 v3) 11 v4))) (P := P) hi)
        refine cu_callI (va_runVN (As := []) (rest := []) ⟨hx, hb, hml, hown, hts⟩ ((m_X0_advance l D C (a (3 + i)) ((va_up K i (upd (upd (upd (K i) 9 v2) 10 v3) 11 v4)) i)) H.size) ⟨(va_cnB 0 hts gX1_gear_X0_advance_n58 rfl rfl rfl (hG.2.1 (58, yX0_advance) (by decide +kernel)) (hts (.initialized RX0) (by decide +kernel)) (by decide +kernel) ⟨Nat.le_of_ble_eq_true rfl, Nat.le_of_ble_eq_true rfl⟩), hts (.instanceMethod yX0_advance) (by decide +kernel), hts (.selects RX0 yX0_advance yX0_advance) (by decide +kernel)⟩ (cu_preV (ci := 0) sp hG hP hD rfl rfl) rfl rfl hl.1 rfl (lv_room (Nat.le_of_ble_eq_true rfl)) dX1_gear_78 ⟨Nat.le_of_ble_eq_true rfl, Nat.le_of_ble_eq_true rfl⟩) sp hP hD hS hA (fun H locs hP hD hS => ?_)
        have hP : va_P D vwCl (cu_cw C a (nI N) mn (va_up K i (upd (upd (upd (K i) 9 v2) 10 v3) 11 v4)) P) H := hP
        have hD : va_D A (cu_cw C a (nI N) mn (va_up K i (upd (upd (upd (K i) 9 v2) 10 v3) 11 v4)) P) := hD
        refine W.widen (k := 2) (n := 12) (Nat.le_of_ble_eq_true rfl) (Nat.le_of_ble_eq_true rfl) ?_
        exact fin _ _ _ _ _ rfl (by simp only [k_oG, ho_2, if_neg c_13, if_neg c_24, if_neg c_46, Option.none_or, Option.some_or, reduceIte]) (by simp only [hcl9]; rw [va_up_self]) (by rw [hcl9]; exact hP) hS dX1_gear_81
      · exact thr x_IAE "a pendulum is -20 to 20" 47 52 51 _ _ 49 _ _ _ _ cu_th_IAE (hts (.classLink RX1 47 x_IAE) (by decide +kernel)) (hts (.initialized x_IAE) (by decide +kernel)) (by decide +kernel) (by decide +kernel) hS hl.1 dX1_gear_49 dX1_gear_52 dX1_gear_53 dX1_gear_55 dX1_gear_58 (Nat.le_of_ble_eq_true rfl) (Nat.le_of_ble_eq_true rfl) (Nat.le_of_ble_eq_true rfl) (Nat.le_of_ble_eq_true rfl) (Nat.le_of_ble_eq_true rfl) (Nat.le_of_ble_eq_true rfl) (by simp only [k_oG, ho_2, if_neg c_13, if_neg c_24, if_pos c_46, Option.none_or, Option.some_or, reduceIte]) hP
    · exact thr x_IAE "a gear has 20 to 40 teeth" 47 49 51 _ _ 27 _ _ _ _ cu_th_IAE (hts (.classLink RX1 47 x_IAE) (by decide +kernel)) (hts (.initialized x_IAE) (by decide +kernel)) (by decide +kernel) (by decide +kernel) hS hl.1 dX1_gear_27 dX1_gear_30 dX1_gear_31 dX1_gear_33 dX1_gear_36 (Nat.le_of_ble_eq_true rfl) (Nat.le_of_ble_eq_true rfl) (Nat.le_of_ble_eq_true rfl) (Nat.le_of_ble_eq_true rfl) (Nat.le_of_ble_eq_true rfl) (Nat.le_of_ble_eq_true rfl) (by simp only [k_oG, ho_2, if_neg c_13, if_pos c_24, Option.none_or, Option.some_or, reduceIte]) hP

set_option maxHeartbeats 4000000 in
set_option maxRecDepth 100000 in
theorem m_X1_set (l : Launch) (hlf : l.stackTraces = false) (D : va_G) (C : Nat → ClassId) (a : Nat → Nat) (N : Nat) (hN : N ≤ 10) (mn : Int32) (K P : Nat → Nat → Int32) (v1 : Int32) (v2 : Int32) : cu_XI l D C yX1_set wsX1_set { frames := 7, cells := 2, slots := 12, locals := 103 } [.ref (a 0), .int v1, .int v2] (cu_cw C a (nI N) mn K P) (cu_cw C a (nI N) mn (va_up K v1.toNatClampNeg (upd (upd (K v1.toNatClampNeg) 0 v2) 1 0)) P) ((k_oC N v1).or (k_oT v2)) (k_off (K v1.toNatClampNeg) mn) 2 12 := by
  refine cu_openXI (cc := cX1_set) (maxL := 4) (ty := .int) hlf (by decide) rfl rfl (Nat.le_of_ble_eq_true rfl) ?_
  intro p e s m args below meth c A Z H0 ls e0 hx hb hml hts hown hnm hG hP hD hS hA hl hT fin thr prop
  have hK := hG.1
  have hl : lv_has ls 4 [(0, .ref (a 0)), (1, .int v1), (2, .int v2)] := hl
  have hiX1 : ∀ w ∈ wsX10, w ∈ wsX1_set := by decide +kernel
  refine lv_aload_n hx hb dX1_set_0 rfl (lv_at hl 0 rfl) ?_
  refine lv_iload_n hx hb dX1_set_1 rfl (lv_at hl 1 rfl) ?_
  have sp := cu_sp.all (W0 := (cu_cw C a (nI N) mn K P)) (W1 := (cu_cw C a (nI N) mn K P)) rfl
  refine cu_callXV (vx_runV (As := [.int v1]) (rest := []) ⟨hx, hb, hml, hown, hts⟩ ((m_X1_checkClock l hlf D C a N hN mn K P v1) H0.size) (cwV 1 hts gX1_set_X1_checkClock rfl rfl rfl (by decide +kernel) ⟨Nat.le_of_ble_eq_true rfl, Nat.le_of_ble_eq_true rfl⟩) (cu_preXV (ci := 1) sp hG hP hD hT hS hA rfl rfl) rfl rfl hl.1 rfl (lv_room (Nat.le_of_ble_eq_true rfl)) dX1_set_2 ⟨Nat.le_of_ble_eq_true rfl, Nat.le_of_ble_eq_true rfl⟩) sp hP hD hS hA (fun E ce q9 H locs hoE hP hS hce hcv hcl => prop E ce q9 H locs _ _ _ _ _ (by simp only [hoE, Option.none_or, Option.some_or, reduceIte]) hP hS hce hcv hcl (Nat.le_of_ble_eq_true rfl) (Nat.le_of_ble_eq_true rfl)) (fun H locs ho_2 hP hD hS => ?_)
  obtain ⟨i, hiN, rfl⟩ := k_oC_in hN ho_2
  have hi : i < 10 := by omega
  have hcl9 : (nI i).toNatClampNeg = i := nI_clamp (by omega)
  have hP : va_P D vwCl (cu_cw C a (nI N) mn K P) H := hP
  have hD : va_D A (cu_cw C a (nI N) mn K P) := hD
  refine lv_iload_n hx hb dX1_set_5 rfl (lv_at hl 2 rfl) ?_
  have sp := cu_sp.nil (W0 := (cu_cw C a (nI N) mn K P))
  refine cu_callXV (vx_runS (As := [.int v2]) (rest := []) ⟨hx, hb, hml, hown, hts⟩ ((m_X1_checkTime l hlf D C v2) H.size) (va_cwS 1 hts gX1_set_X1_checkTime rfl rfl rfl (by decide +kernel) ⟨Nat.le_of_ble_eq_true rfl, Nat.le_of_ble_eq_true rfl⟩) (cu_preXS sp hG hP hD hT hS hA) rfl rfl hl.1 rfl (lv_room (Nat.le_of_ble_eq_true rfl)) dX1_set_6 ⟨Nat.le_of_ble_eq_true rfl, Nat.le_of_ble_eq_true rfl⟩) sp hP hD hS hA (fun E ce q9 H locs hoE hP hS hce hcv hcl => prop E ce q9 H locs _ _ _ _ _ (by simp only [ho_2, hoE, Option.none_or, Option.some_or, reduceIte]) hP hS hce hcv hcl (Nat.le_of_ble_eq_true rfl) (Nat.le_of_ble_eq_true rfl)) (fun H locs ho_6 hP hD hS => ?_)
  refine lv_aload_n hx hb dX1_set_9 rfl (lv_at hl 0 rfl) ?_
  refine va_get (D := D) (ci := 1) (v := .ref (a 1)) (C := RX1) (T := TX1) (N := 4) hx hb hts hiX1 hown hK hP 0 rfl rfl 0 (by decide) (hts (.fieldLink RX1 11 "CuckooShop" "clocks" "[LCuckooShop$Clock;") (by decide +kernel)) (fun _ h9 => h9) rfl dX1_set_10 ?_
  refine lv_iload_n hx hb dX1_set_13 rfl (lv_at hl 1 rfl) ?_
  refine cu_aaldK hi hx hb hK hP dX1_set_14 ?_
  refine lv_aload_n hx hb dX1_set_15 rfl (lv_at hl 0 rfl) ?_
  refine va_get (D := D) (ci := 1) (v := .int mn) (C := RX1) (T := TX1) (N := 4) hx hb hts hiX1 hown hK hP 0 rfl rfl 3 (by decide) (hts (.fieldLink RX1 23 "CuckooShop" "minute" "I") (by decide +kernel)) (fun _ h9 => h9) rfl dX1_set_16 ?_
  have sp := cu_sp.rd (cu_cw_K (C := C) (a := a) (n := (nI N)) (m := mn) (K := K) (P := P) hi)
  refine cu_callI (va_runS (As := [.ref (a (3 + i)), .int mn]) (rest := []) ⟨hx, hb, hml, hown, hts⟩ ((m_X1_offOf l D C (a (3 + i)) (K i) mn) H.size) (va_cwS 2 hts gX1_set_X1_offOf rfl rfl rfl (by decide +kernel) ⟨Nat.le_of_ble_eq_true rfl, Nat.le_of_ble_eq_true rfl⟩) (cu_preS sp hG hP hD) rfl rfl hl.1 rfl (lv_room (Nat.le_of_ble_eq_true rfl)) dX1_set_19 ⟨Nat.le_of_ble_eq_true rfl, Nat.le_of_ble_eq_true rfl⟩) sp hP hD hS hA (fun H locs hP hD hS => ?_)
  refine lv_istore_n (lv' := [(3, .int (k_off (K i) mn)), (0, .ref (a 0)), (1, .int (nI i)), (2, .int v2)]) hx hb dX1_set_22 rfl hl (by decide) rfl (fun ls hl => ?_)
  refine lv_aload_n hx hb dX1_set_23 rfl (lv_at hl 1 rfl) ?_
  refine va_get (D := D) (ci := 1) (v := .ref (a 1)) (C := RX1) (T := TX1) (N := 4) hx hb hts hiX1 hown hK hP 0 rfl rfl 0 (by decide) (hts (.fieldLink RX1 11 "CuckooShop" "clocks" "[LCuckooShop$Clock;") (by decide +kernel)) (fun _ h9 => h9) rfl dX1_set_24 ?_
  refine lv_iload_n hx hb dX1_set_27 rfl (lv_at hl 2 rfl) ?_
  refine cu_aaldK hi hx hb hK hP dX1_set_28 ?_
  refine lv_iload_n hx hb dX1_set_29 rfl (lv_at hl 3 rfl) ?_
  have sp := cu_spK (C := C) (a := a) (n := (nI N)) (m := mn) (K := K) (P := P) hi (upd (upd (K i) 0 v2) 1 0)
  refine cu_callV (va_runVN (As := [.int v2]) (rest := []) ⟨hx, hb, hml, hown, hts⟩ ((m_X0_putHands l D C (a (3 + i)) (K i) v2) H.size) ⟨(va_cnB 1 hts gX1_set_X0_putHands_n37 rfl rfl rfl (hG.2.1 (37, yX0_putHands) (by decide +kernel)) (hts (.initialized RX0) (by decide +kernel)) (by decide +kernel) ⟨Nat.le_of_ble_eq_true rfl, Nat.le_of_ble_eq_true rfl⟩), hts (.instanceMethod yX0_putHands) (by decide +kernel), hts (.selects RX0 yX0_putHands yX0_putHands) (by decide +kernel)⟩ (cu_preV (ci := 0) sp hG hP hD rfl rfl) rfl rfl hl.1 rfl (lv_room (Nat.le_of_ble_eq_true rfl)) dX1_set_30 ⟨Nat.le_of_ble_eq_true rfl, Nat.le_of_ble_eq_true rfl⟩) sp hP hD hS hA (fun H locs hP hD hS => ?_)
  have hP : va_P D vwCl (cu_cw C a (nI N) mn (va_up K i (upd (upd (K i) 0 v2) 1 0)) P) H := hP
  have hD : va_D A (cu_cw C a (nI N) mn (va_up K i (upd (upd (K i) 0 v2) 1 0)) P) := hD
  refine lv_iload_n hx hb dX1_set_33 rfl (lv_at hl 0 rfl) ?_
  refine W.widen (k := 2) (n := 12) (Nat.le_of_ble_eq_true rfl) (Nat.le_of_ble_eq_true rfl) ?_
  exact fin _ _ _ _ _ rfl (by simp only [ho_2, ho_6, Option.none_or, Option.some_or, reduceIte]) (by simp only [hcl9]) (by rw [hcl9]; exact hP) hS dX1_set_34

set_option maxHeartbeats 4000000 in
set_option maxRecDepth 100000 in
theorem m_X1_shut (l : Launch) (hlf : l.stackTraces = false) (D : va_G) (C : Nat → ClassId) (a : Nat → Nat) (N : Nat) (hN : N ≤ 10) (mn : Int32) (K P : Nat → Nat → Int32) (v1 : Int32) (v2 : Int32) (v3 : Int32) : cu_XI l D C yX1_shut wsX1_shut { frames := 7, cells := 3, slots := 18, locals := 103 } [.ref (a 0), .int v1, .int v2, .int v3] (cu_cw C a (nI N) mn K P) (cu_cw C a (nI N) mn (va_up K v1.toNatClampNeg (upd (upd (K v1.toNatClampNeg) 12 v2) 13 v3)) P) ((k_oC N v1).or (k_oS v2 v3)) (K v1.toNatClampNeg 12) 3 18 := by
  refine cu_openXI (cc := cX1_shut) (maxL := 4) (ty := .int) hlf (by decide) rfl rfl (Nat.le_of_ble_eq_true rfl) ?_
  intro p e s m args below meth c A Z H0 ls e0 hx hb hml hts hown hnm hG hP hD hS hA hl hT fin thr prop
  have hK := hG.1
  have hl : lv_has ls 4 [(0, .ref (a 0)), (1, .int v1), (2, .int v2), (3, .int v3)] := hl
  have hiX1 : ∀ w ∈ wsX10, w ∈ wsX1_shut := by decide +kernel
  refine lv_aload_n hx hb dX1_shut_0 rfl (lv_at hl 0 rfl) ?_
  refine lv_iload_n hx hb dX1_shut_1 rfl (lv_at hl 1 rfl) ?_
  have sp := cu_sp.all (W0 := (cu_cw C a (nI N) mn K P)) (W1 := (cu_cw C a (nI N) mn K P)) rfl
  refine cu_callXV (vx_runV (As := [.int v1]) (rest := []) ⟨hx, hb, hml, hown, hts⟩ ((m_X1_checkClock l hlf D C a N hN mn K P v1) H0.size) (cwV 1 hts gX1_shut_X1_checkClock rfl rfl rfl (by decide +kernel) ⟨Nat.le_of_ble_eq_true rfl, Nat.le_of_ble_eq_true rfl⟩) (cu_preXV (ci := 1) sp hG hP hD hT hS hA rfl rfl) rfl rfl hl.1 rfl (lv_room (Nat.le_of_ble_eq_true rfl)) dX1_shut_2 ⟨Nat.le_of_ble_eq_true rfl, Nat.le_of_ble_eq_true rfl⟩) sp hP hD hS hA (fun E ce q9 H locs hoE hP hS hce hcv hcl => prop E ce q9 H locs _ _ _ _ _ (by simp only [k_oS, k_oS3, hoE, Option.none_or, Option.some_or, reduceIte]) hP hS hce hcv hcl (Nat.le_of_ble_eq_true rfl) (Nat.le_of_ble_eq_true rfl)) (fun H locs ho_2 hP hD hS => ?_)
  obtain ⟨i, hiN, rfl⟩ := k_oC_in hN ho_2
  have hi : i < 10 := by omega
  have hcl9 : (nI i).toNatClampNeg = i := nI_clamp (by omega)
  have hP : va_P D vwCl (cu_cw C a (nI N) mn K P) H := hP
  have hD : va_D A (cu_cw C a (nI N) mn K P) := hD
  refine lv_iload_n hx hb dX1_shut_5 rfl (lv_at hl 2 rfl) ?_
  refine lv_iconst (v := -1) hx hb dX1_shut_6 (by decide) ?_
  refine lv_icmp_eq (tgt := 14) hx hb dX1_shut_7 (by decide) (fun c_7 => ?_) (fun c_7 => ?_)
  · refine lv_iload_n hx hb dX1_shut_14 rfl (lv_at hl 3 rfl) ?_
    have sp := cu_sp.nil (W0 := (cu_cw C a (nI N) mn K P))
    refine cu_callXV (vx_runS (As := [.int v3]) (rest := []) ⟨hx, hb, hml, hown, hts⟩ ((m_X1_checkTime l hlf D C v3) H.size) (va_cwS 1 hts gX1_shut_X1_checkTime rfl rfl rfl (by decide +kernel) ⟨Nat.le_of_ble_eq_true rfl, Nat.le_of_ble_eq_true rfl⟩) (cu_preXS sp hG hP hD hT hS hA) rfl rfl hl.1 rfl (lv_room (Nat.le_of_ble_eq_true rfl)) dX1_shut_15 ⟨Nat.le_of_ble_eq_true rfl, Nat.le_of_ble_eq_true rfl⟩) sp hP hD hS hA (fun E ce q9 H locs hoE hP hS hce hcv hcl => prop E ce q9 H locs _ _ _ _ _ (by simp only [k_oS, k_oS3, ho_2, hoE, if_pos c_7, Option.none_or, Option.some_or, reduceIte]) hP hS hce hcv hcl (Nat.le_of_ble_eq_true rfl) (Nat.le_of_ble_eq_true rfl)) (fun H locs ho_15 hP hD hS => ?_)
    refine lv_iload_n hx hb dX1_shut_18 rfl (lv_at hl 2 rfl) ?_
    refine lv_iconst (v := -1) hx hb dX1_shut_19 (by decide) ?_
    refine lv_icmp_ne (tgt := 37) hx hb dX1_shut_20 (by decide) (fun c_20 => absurd c_7 c_20) (fun c_20 => ?_)
    refine lv_iload_n hx hb dX1_shut_23 rfl (lv_at hl 3 rfl) ?_
    refine lv_if_eq (tgt := 37) hx hb dX1_shut_24 (by decide) (fun c_24 => ?_) (fun c_24 => ?_)
    · refine lv_aload_n hx hb dX1_shut_37 rfl (lv_at hl 0 rfl) ?_
      refine va_get (D := D) (ci := 1) (v := .ref (a 1)) (C := RX1) (T := TX1) (N := 4) hx hb hts hiX1 hown hK hP 0 rfl rfl 0 (by decide) (hts (.fieldLink RX1 11 "CuckooShop" "clocks" "[LCuckooShop$Clock;") (by decide +kernel)) (fun _ h9 => h9) rfl dX1_shut_38 ?_
      refine lv_iload_n hx hb dX1_shut_41 rfl (lv_at hl 1 rfl) ?_
      refine cu_aaldK hi hx hb hK hP dX1_shut_42 ?_
      refine lv_iload_n hx hb dX1_shut_43 rfl (lv_at hl 2 rfl) ?_
      refine lv_iload_n hx hb dX1_shut_44 rfl (lv_at hl 3 rfl) ?_
      have sp := cu_spK (C := C) (a := a) (n := (nI N)) (m := mn) (K := K) (P := P) hi (upd (upd (K i) 12 v2) 13 v3)
      refine cu_callI (va_runVN (As := [.int v2, .int v3]) (rest := []) ⟨hx, hb, hml, hown, hts⟩ ((m_X0_silence l D C (a (3 + i)) (K i) v2 v3) H.size) ⟨(va_cnB 2 hts gX1_shut_X0_silence_n82 rfl rfl rfl (hG.2.1 (82, yX0_silence) (by decide +kernel)) (hts (.initialized RX0) (by decide +kernel)) (by decide +kernel) ⟨Nat.le_of_ble_eq_true rfl, Nat.le_of_ble_eq_true rfl⟩), hts (.instanceMethod yX0_silence) (by decide +kernel), hts (.selects RX0 yX0_silence yX0_silence) (by decide +kernel)⟩ (cu_preV (ci := 0) sp hG hP hD rfl rfl) rfl rfl hl.1 rfl (lv_room (Nat.le_of_ble_eq_true rfl)) dX1_shut_45 ⟨Nat.le_of_ble_eq_true rfl, Nat.le_of_ble_eq_true rfl⟩) sp hP hD hS hA (fun H locs hP hD hS => ?_)
      have hP : va_P D vwCl (cu_cw C a (nI N) mn (va_up K i (upd (upd (K i) 12 v2) 13 v3)) P) H := hP
      have hD : va_D A (cu_cw C a (nI N) mn (va_up K i (upd (upd (K i) 12 v2) 13 v3)) P) := hD
      refine W.widen (k := 3) (n := 18) (Nat.le_of_ble_eq_true rfl) (Nat.le_of_ble_eq_true rfl) ?_
      exact fin _ _ _ _ _ rfl (by simp only [k_oS, k_oS3, ho_2, ho_15, if_pos c_7, if_pos c_20, if_pos c_24, Option.none_or, Option.some_or, reduceIte]) (by simp only [hcl9]) (by rw [hcl9]; exact hP) hS dX1_shut_48
    · exact thr x_IAE "till is 0 if from is -1" 47 80 51 _ _ 27 _ _ _ _ cu_th_IAE (hts (.classLink RX1 47 x_IAE) (by decide +kernel)) (hts (.initialized x_IAE) (by decide +kernel)) (by decide +kernel) (by decide +kernel) hS hl.1 dX1_shut_27 dX1_shut_30 dX1_shut_31 dX1_shut_33 dX1_shut_36 (Nat.le_of_ble_eq_true rfl) (Nat.le_of_ble_eq_true rfl) (Nat.le_of_ble_eq_true rfl) (Nat.le_of_ble_eq_true rfl) (Nat.le_of_ble_eq_true rfl) (Nat.le_of_ble_eq_true rfl) (by simp only [k_oS, k_oS3, ho_2, ho_15, if_pos c_7, if_pos c_20, if_neg c_24, Option.none_or, Option.some_or, reduceIte]) hP
  · refine lv_iload_n hx hb dX1_shut_10 rfl (lv_at hl 2 rfl) ?_
    have sp := cu_sp.nil (W0 := (cu_cw C a (nI N) mn K P))
    refine cu_callXV (vx_runS (As := [.int v2]) (rest := []) ⟨hx, hb, hml, hown, hts⟩ ((m_X1_checkTime l hlf D C v2) H.size) (va_cwS 1 hts gX1_shut_X1_checkTime rfl rfl rfl (by decide +kernel) ⟨Nat.le_of_ble_eq_true rfl, Nat.le_of_ble_eq_true rfl⟩) (cu_preXS sp hG hP hD hT hS hA) rfl rfl hl.1 rfl (lv_room (Nat.le_of_ble_eq_true rfl)) dX1_shut_11 ⟨Nat.le_of_ble_eq_true rfl, Nat.le_of_ble_eq_true rfl⟩) sp hP hD hS hA (fun E ce q9 H locs hoE hP hS hce hcv hcl => prop E ce q9 H locs _ _ _ _ _ (by simp only [k_oS, k_oS3, ho_2, hoE, if_neg c_7, Option.none_or, Option.some_or, reduceIte]) hP hS hce hcv hcl (Nat.le_of_ble_eq_true rfl) (Nat.le_of_ble_eq_true rfl)) (fun H locs ho_11 hP hD hS => ?_)
    refine lv_iload_n hx hb dX1_shut_14 rfl (lv_at hl 3 rfl) ?_
    have sp := cu_sp.nil (W0 := (cu_cw C a (nI N) mn K P))
    refine cu_callXV (vx_runS (As := [.int v3]) (rest := []) ⟨hx, hb, hml, hown, hts⟩ ((m_X1_checkTime l hlf D C v3) H.size) (va_cwS 1 hts gX1_shut_X1_checkTime rfl rfl rfl (by decide +kernel) ⟨Nat.le_of_ble_eq_true rfl, Nat.le_of_ble_eq_true rfl⟩) (cu_preXS sp hG hP hD hT hS hA) rfl rfl hl.1 rfl (lv_room (Nat.le_of_ble_eq_true rfl)) dX1_shut_15 ⟨Nat.le_of_ble_eq_true rfl, Nat.le_of_ble_eq_true rfl⟩) sp hP hD hS hA (fun E ce q9 H locs hoE hP hS hce hcv hcl => prop E ce q9 H locs _ _ _ _ _ (by simp only [k_oS, k_oS3, ho_2, ho_11, hoE, if_neg c_7, Option.none_or, Option.some_or, reduceIte]) hP hS hce hcv hcl (Nat.le_of_ble_eq_true rfl) (Nat.le_of_ble_eq_true rfl)) (fun H locs ho_15 hP hD hS => ?_)
    refine lv_iload_n hx hb dX1_shut_18 rfl (lv_at hl 2 rfl) ?_
    refine lv_iconst (v := -1) hx hb dX1_shut_19 (by decide) ?_
    refine lv_icmp_ne (tgt := 37) hx hb dX1_shut_20 (by decide) (fun c_20 => ?_) (fun c_20 => absurd c_20 c_7)
    refine lv_aload_n hx hb dX1_shut_37 rfl (lv_at hl 0 rfl) ?_
    refine va_get (D := D) (ci := 1) (v := .ref (a 1)) (C := RX1) (T := TX1) (N := 4) hx hb hts hiX1 hown hK hP 0 rfl rfl 0 (by decide) (hts (.fieldLink RX1 11 "CuckooShop" "clocks" "[LCuckooShop$Clock;") (by decide +kernel)) (fun _ h9 => h9) rfl dX1_shut_38 ?_
    refine lv_iload_n hx hb dX1_shut_41 rfl (lv_at hl 1 rfl) ?_
    refine cu_aaldK hi hx hb hK hP dX1_shut_42 ?_
    refine lv_iload_n hx hb dX1_shut_43 rfl (lv_at hl 2 rfl) ?_
    refine lv_iload_n hx hb dX1_shut_44 rfl (lv_at hl 3 rfl) ?_
    have sp := cu_spK (C := C) (a := a) (n := (nI N)) (m := mn) (K := K) (P := P) hi (upd (upd (K i) 12 v2) 13 v3)
    refine cu_callI (va_runVN (As := [.int v2, .int v3]) (rest := []) ⟨hx, hb, hml, hown, hts⟩ ((m_X0_silence l D C (a (3 + i)) (K i) v2 v3) H.size) ⟨(va_cnB 2 hts gX1_shut_X0_silence_n82 rfl rfl rfl (hG.2.1 (82, yX0_silence) (by decide +kernel)) (hts (.initialized RX0) (by decide +kernel)) (by decide +kernel) ⟨Nat.le_of_ble_eq_true rfl, Nat.le_of_ble_eq_true rfl⟩), hts (.instanceMethod yX0_silence) (by decide +kernel), hts (.selects RX0 yX0_silence yX0_silence) (by decide +kernel)⟩ (cu_preV (ci := 0) sp hG hP hD rfl rfl) rfl rfl hl.1 rfl (lv_room (Nat.le_of_ble_eq_true rfl)) dX1_shut_45 ⟨Nat.le_of_ble_eq_true rfl, Nat.le_of_ble_eq_true rfl⟩) sp hP hD hS hA (fun H locs hP hD hS => ?_)
    have hP : va_P D vwCl (cu_cw C a (nI N) mn (va_up K i (upd (upd (K i) 12 v2) 13 v3)) P) H := hP
    have hD : va_D A (cu_cw C a (nI N) mn (va_up K i (upd (upd (K i) 12 v2) 13 v3)) P) := hD
    refine W.widen (k := 3) (n := 18) (Nat.le_of_ble_eq_true rfl) (Nat.le_of_ble_eq_true rfl) ?_
    exact fin _ _ _ _ _ rfl (by simp only [k_oS, k_oS3, ho_2, ho_11, ho_15, if_neg c_7, if_neg c_20, Option.none_or, Option.some_or, reduceIte]) (by simp only [hcl9]) (by rw [hcl9]; exact hP) hS dX1_shut_48

set_option maxHeartbeats 4000000 in
set_option maxRecDepth 100000 in
theorem m_X1_count (l : Launch) (hlf : l.stackTraces = false) (D : va_G) (C : Nat → ClassId) (a : Nat → Nat) (N : Nat) (hN : N ≤ 10) (mn : Int32) (K P : Nat → Nat → Int32) (v1 : Int32) : cu_XI l D C yX1_count wsX1_count { frames := 6, cells := 1, slots := 6, locals := 109 } [.ref (a 0), .int v1] (cu_cw C a (nI N) mn K P) (cu_cw C a (nI N) mn K P) (k_oY v1) (k_tally N K mn v1) 1 6 := by
  refine cu_openXI (cc := cX1_count) (maxL := 2) (ty := .int) hlf (by decide) rfl rfl (Nat.le_of_ble_eq_true rfl) ?_
  intro p e s m args below meth c A Z H0 ls e0 hx hb hml hts hown hnm hG hP hD hS hA hl hT fin thr prop
  have hK := hG.1
  have hl : lv_has ls 2 [(0, .ref (a 0)), (1, .int v1)] := hl
  refine lv_iload_n hx hb dX1_count_0 rfl (lv_at hl 1 rfl) ?_
  refine lv_iconst (v := 0) hx hb dX1_count_1 (by decide) ?_
  refine lv_bipush (v := 7) hx hb dX1_count_2 (by decide) ?_
  have sp := cu_sp.nil (W0 := (cu_cw C a (nI N) mn K P))
  refine cu_callI (va_runS (As := [.int v1, .int 0, .int 7]) (rest := []) ⟨hx, hb, hml, hown, hts⟩ ((m_X1_isWithin l D C v1 0 7) H0.size) (va_cwS 3 hts gX1_count_X1_isWithin rfl rfl rfl (by decide +kernel) ⟨Nat.le_of_ble_eq_true rfl, Nat.le_of_ble_eq_true rfl⟩) (cu_preS sp hG hP hD) rfl rfl hl.1 rfl (lv_room (Nat.le_of_ble_eq_true rfl)) dX1_count_4 ⟨Nat.le_of_ble_eq_true rfl, Nat.le_of_ble_eq_true rfl⟩) sp hP hD hS hA (fun H locs hP hD hS => ?_)
  refine lv_if_ne (tgt := 20) hx hb dX1_count_7 (by decide) (fun c_7 => ?_) (fun c_7 => ?_)
  · refine lv_aload_n hx hb dX1_count_20 rfl (lv_at hl 0 rfl) ?_
    refine lv_iload_n hx hb dX1_count_21 rfl (lv_at hl 1 rfl) ?_
    have sp := cu_sp.all (W0 := (cu_cw C a (nI N) mn K P)) (W1 := (cu_cw C a (nI N) mn K P)) rfl
    refine cu_callI (va_runV (As := [.int v1]) (rest := []) ⟨hx, hb, hml, hown, hts⟩ ((m_X1_tally l D C a N hN mn K P v1) H.size) (cwV 1 hts gX1_count_X1_tally rfl rfl rfl (by decide +kernel) ⟨Nat.le_of_ble_eq_true rfl, Nat.le_of_ble_eq_true rfl⟩) (cu_preV (ci := 1) sp hG hP hD rfl rfl) rfl rfl hl.1 rfl (lv_room (Nat.le_of_ble_eq_true rfl)) dX1_count_22 ⟨Nat.le_of_ble_eq_true rfl, Nat.le_of_ble_eq_true rfl⟩) sp hP hD hS hA (fun H locs hP hD hS => ?_)
    have hP : va_P D vwCl (cu_cw C a (nI N) mn K P) H := hP
    have hD : va_D A (cu_cw C a (nI N) mn K P) := hD
    refine W.widen (k := 1) (n := 6) (Nat.le_of_ble_eq_true rfl) (Nat.le_of_ble_eq_true rfl) ?_
    exact fin _ _ _ _ _ rfl (by simp only [k_oY, if_neg c_7, Option.none_or, Option.some_or, reduceIte]) (by rfl) hP hS dX1_count_25
  · exact thr x_IOB "what is counted is 0 to 7" 86 95 90 _ _ 10 _ _ _ _ cu_th_IOB (hts (.classLink RX1 86 x_IOB) (by decide +kernel)) (hts (.initialized x_IOB) (by decide +kernel)) (by decide +kernel) (by decide +kernel) hS hl.1 dX1_count_10 dX1_count_13 dX1_count_14 dX1_count_16 dX1_count_19 (Nat.le_of_ble_eq_true rfl) (Nat.le_of_ble_eq_true rfl) (Nat.le_of_ble_eq_true rfl) (Nat.le_of_ble_eq_true rfl) (Nat.le_of_ble_eq_true rfl) (Nat.le_of_ble_eq_true rfl) (by simp only [k_oY, if_pos c_7, Option.none_or, Option.some_or, reduceIte]) hP
