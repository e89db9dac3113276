set_option maxHeartbeats 4000000 in
set_option maxRecDepth 100000 in
theorem m_X1_come (l : Launch) (hlf : l.stackTraces = false) (D : va_G) (C : Nat → ClassId) (a : Nat → Nat) (N : Nat) (hN : N ≤ 10) (mn : Int32) (K P : Nat → Nat → Int32) (v1 : Int32) : cu_XI l D C yX1_come wsX1_come { frames := 7, cells := 2, slots := 12, locals := 102 } [.ref (a 0), .int v1] (cu_cw C a (nI N) mn K P) (cu_cw C a (nI (N + 1)) mn (va_up K N (upd (upd (K N) 0 v1) 1 0)) P) ((k_oT v1).or (k_oN N)) (nI N) 2 12 := by
  refine cu_openXI (cc := cX1_come) (maxL := 2) (ty := .int) hlf (by decide) rfl rfl (Nat.le_of_ble_eq_true rfl) ?_
  intro p e s m args below meth c A Z H0 ls e0 hx hb hml hts hown hnm hG hP hD hS hA hl hT fin thr prop
  have hK := hG.1
  have hl : lv_has ls 2 [(0, .ref (a 0)), (1, .int v1)] := hl
  have hiX1 : ∀ w ∈ wsX10, w ∈ wsX1_come := by decide +kernel
  refine lv_iload_n hx hb dX1_come_0 rfl (lv_at hl 1 rfl) ?_
  have sp := cu_sp.nil (W0 := (cu_cw C a (nI N) mn K P))
  refine cu_callXV (vx_runS (As := [.int v1]) (rest := []) ⟨hx, hb, hml, hown, hts⟩ ((m_X1_checkTime l hlf D C v1) H0.size) (va_cwS 1 hts gX1_come_X1_checkTime rfl rfl rfl (by decide +kernel) ⟨Nat.le_of_ble_eq_true rfl, Nat.le_of_ble_eq_true rfl⟩) (cu_preXS sp hG hP hD hT hS hA) rfl rfl hl.1 rfl (lv_room (Nat.le_of_ble_eq_true rfl)) dX1_come_1 ⟨Nat.le_of_ble_eq_true rfl, Nat.le_of_ble_eq_true rfl⟩) sp hP hD hS hA (fun E ce q9 H locs hoE hP hS hce hcv hcl => prop E ce q9 H locs _ _ _ _ _ (by simp only [k_oN, hoE, Option.none_or, Option.some_or, reduceIte]) hP hS hce hcv hcl (Nat.le_of_ble_eq_true rfl) (Nat.le_of_ble_eq_true rfl)) (fun H locs ho_1 hP hD hS => ?_)
  refine lv_aload_n hx hb dX1_come_4 rfl (lv_at hl 0 rfl) ?_
  refine va_get (D := D) (ci := 1) (v := .int (nI N)) (C := RX1) (T := TX1) (N := 4) hx hb hts hiX1 hown hK hP 0 rfl rfl 2 (by decide) (hts (.fieldLink RX1 19 "CuckooShop" "present" "I") (by decide +kernel)) (fun _ h9 => h9) rfl dX1_come_5 ?_
  refine lv_bipush (v := 10) hx hb dX1_come_8 (by decide) ?_
  refine lv_icmp_lt (tgt := 23) hx hb dX1_come_10 (by decide) (fun c_10 => ?_) (fun c_10 => ?_)
  · refine lv_aload_n hx hb dX1_come_23 rfl (lv_at hl 0 rfl) ?_
    refine va_get (D := D) (ci := 1) (v := .ref (a 1)) (C := RX1) (T := TX1) (N := 4) hx hb hts hiX1 hown hK hP 0 rfl rfl 0 (by decide) (hts (.fieldLink RX1 11 "CuckooShop" "clocks" "[LCuckooShop$Clock;") (by decide +kernel)) (fun _ h9 => h9) rfl dX1_come_24 ?_
    have hN : N < 10 := (nI_ltI (b := 10) (by omega) (by decide)).mp c_10
    refine lv_aload_n hx hb dX1_come_27 rfl (lv_at hl 0 rfl) ?_
    refine va_get (D := D) (ci := 1) (v := .int (nI N)) (C := RX1) (T := TX1) (N := 4) hx hb hts hiX1 hown hK hP 0 rfl rfl 2 (by decide) (hts (.fieldLink RX1 19 "CuckooShop" "present" "I") (by decide +kernel)) (fun _ h9 => h9) rfl dX1_come_28 ?_
    refine cu_aaldK hN hx hb hK hP dX1_come_31 ?_
    refine lv_iload_n hx hb dX1_come_32 rfl (lv_at hl 1 rfl) ?_
    have sp := cu_spK (C := C) (a := a) (n := (nI N)) (m := mn) (K := K) (P := P) hN (upd (upd (K N) 0 v1) 1 0)
    refine cu_callV (va_runVN (As := [.int v1]) (rest := []) ⟨hx, hb, hml, hown, hts⟩ ((m_X0_putHands l D C (a (3 + N)) (K N) v1) H.size) ⟨(va_cnB 1 hts gX1_come_X0_putHands_n37 rfl rfl rfl (hG.2.1 (37, yX0_putHands) (by decide +kernel)) (hts (.initialized RX0) (by decide +kernel)) (by decide +kernel) ⟨Nat.le_of_ble_eq_true rfl, Nat.le_of_ble_eq_true rfl⟩), hts (.instanceMethod yX0_putHands) (by decide +kernel), hts (.selects RX0 yX0_putHands yX0_putHands) (by decide +kernel)⟩ (cu_preV (ci := 0) sp hG hP hD rfl rfl) rfl rfl hl.1 rfl (lv_room (Nat.le_of_ble_eq_true rfl)) dX1_come_33 ⟨Nat.le_of_ble_eq_true rfl, Nat.le_of_ble_eq_true rfl⟩) sp hP hD hS hA (fun H locs hP hD hS => ?_)
    have hP : va_P D vwCl (cu_cw C a (nI N) mn (va_up K N (upd (upd (K N) 0 v1) 1 0)) P) H := hP
    have hD : va_D A (cu_cw C a (nI N) mn (va_up K N (upd (upd (K N) 0 v1) 1 0)) P) := hD
    refine lv_aload_n hx hb dX1_come_36 rfl (lv_at hl 0 rfl) ?_
    refine lv_dup hx hb dX1_come_37 rfl ?_
    refine va_get (D := D) (ci := 1) (v := .int (nI N)) (C := RX1) (T := TX1) (N := 4) hx hb hts hiX1 hown hK hP 0 rfl rfl 2 (by decide) (hts (.fieldLink RX1 19 "CuckooShop" "present" "I") (by decide +kernel)) (fun _ h9 => h9) rfl dX1_come_38 ?_
    refine lv_iconst (v := 1) hx hb dX1_come_41 (by decide) ?_
    refine lv_iadd hx hb dX1_come_42 ?_
    refine cu_top (x' := nI (N + 1)) (nI_1 N) ?_
    refine va_put (D := D) (ci := 1) (v := .int (nI (N + 1))) (ty := .int) (C := RX1) (T := TX1) (N := 4) hx hb hts hiX1 tyX1 tyX1_ok nmX1 hown hK hP hD hS 0 rfl rfl 2 (by decide) (hts (.fieldLink RX1 19 "CuckooShop" "present" "I") (by decide +kernel)) (fun _ h9 => h9) rfl (by decide +kernel) rfl rfl (Nat.le_of_ble_eq_true rfl) dX1_come_43 (fun H locs hP hD hS => ?_)
    have hP : va_P D vwCl (cu_cw C a (nI (N + 1)) mn (va_up K N (upd (upd (K N) 0 v1) 1 0)) P) H := hP
    have hD : va_D A (cu_cw C a (nI (N + 1)) mn (va_up K N (upd (upd (K N) 0 v1) 1 0)) P) := hD
    refine lv_aload_n hx hb dX1_come_46 rfl (lv_at hl 0 rfl) ?_
    refine va_get (D := D) (ci := 1) (v := .int (nI (N + 1))) (C := RX1) (T := TX1) (N := 4) hx hb hts hiX1 hown hK hP 0 rfl rfl 2 (by decide) (hts (.fieldLink RX1 19 "CuckooShop" "present" "I") (by decide +kernel)) (fun _ h9 => h9) rfl dX1_come_47 ?_
    refine lv_iconst (v := 1) hx hb dX1_come_50 (by decide) ?_
    refine lv_isub hx hb dX1_come_51 ?_
    refine W.widen (k := 2) (n := 12) (Nat.le_of_ble_eq_true rfl) (Nat.le_of_ble_eq_true rfl) ?_
    exact fin _ _ _ _ _ rfl (by simp only [k_oN, ho_1, if_pos c_10, Option.none_or, Option.some_or, reduceIte]) (by exact nI_pred N) hP hS dX1_come_52
  · exact thr x_ISE "there are 10 clocks" 30 32 34 _ _ 13 _ _ _ _ cu_th_ISE (hts (.classLink RX1 30 x_ISE) (by decide +kernel)) (hts (.initialized x_ISE) (by decide +kernel)) (by decide +kernel) (by decide +kernel) hS hl.1 dX1_come_13 dX1_come_16 dX1_come_17 dX1_come_19 dX1_come_22 (Nat.le_of_ble_eq_true rfl) (Nat.le_of_ble_eq_true rfl) (Nat.le_of_ble_eq_true rfl) (Nat.le_of_ble_eq_true rfl) (Nat.le_of_ble_eq_true rfl) (Nat.le_of_ble_eq_true rfl) (by simp only [k_oN, ho_1, if_neg c_10, Option.none_or, Option.some_or, reduceIte]) hP

set_option maxHeartbeats 4000000 in
set_option maxRecDepth 100000 in
theorem m_X1_mend (l : Launch) (hlf : l.stackTraces = false) (D : va_G) (C : Nat → ClassId) (a : Nat → Nat) (N : Nat) (hN : N ≤ 10) (mn : Int32) (K P : Nat → Nat → Int32) (v1 : Int32) (v2 : Int32) : cu_XI l D C yX1_mend wsX1_mend { frames := 7, cells := 2, slots := 12, locals := 103 } [.ref (a 0), .int v1, .int v2] (cu_cw C a (nI N) mn K P) (cu_cw C a (nI N) mn (va_up K v1.toNatClampNeg (k_mendK (K v1.toNatClampNeg) v2)) P) ((k_oC N v1).or (k_oE v2)) (k_mendV (K v1.toNatClampNeg) v2) 2 12 := by
  refine cu_openXI (cc := cX1_mend) (maxL := 3) (ty := .int) hlf (by decide) rfl rfl (Nat.le_of_ble_eq_true rfl) ?_
  intro p e s m args below meth c A Z H0 ls e0 hx hb hml hts hown hnm hG hP hD hS hA hl hT fin thr prop
  have hK := hG.1
  have hl : lv_has ls 3 [(0, .ref (a 0)), (1, .int v1), (2, .int v2)] := hl
  have hiX1 : ∀ w ∈ wsX10, w ∈ wsX1_mend := by decide +kernel
  refine lv_aload_n hx hb dX1_mend_0 rfl (lv_at hl 0 rfl) ?_
  refine lv_iload_n hx hb dX1_mend_1 rfl (lv_at hl 1 rfl) ?_
  have sp := cu_sp.all (W0 := (cu_cw C a (nI N) mn K P)) (W1 := (cu_cw C a (nI N) mn K P)) rfl
  refine cu_callXV (vx_runV (As := [.int v1]) (rest := []) ⟨hx, hb, hml, hown, hts⟩ ((m_X1_checkClock l hlf D C a N hN mn K P v1) H0.size) (cwV 1 hts gX1_mend_X1_checkClock rfl rfl rfl (by decide +kernel) ⟨Nat.le_of_ble_eq_true rfl, Nat.le_of_ble_eq_true rfl⟩) (cu_preXV (ci := 1) sp hG hP hD hT hS hA rfl rfl) rfl rfl hl.1 rfl (lv_room (Nat.le_of_ble_eq_true rfl)) dX1_mend_2 ⟨Nat.le_of_ble_eq_true rfl, Nat.le_of_ble_eq_true rfl⟩) sp hP hD hS hA (fun E ce q9 H locs hoE hP hS hce hcv hcl => prop E ce q9 H locs _ _ _ _ _ (by simp only [k_oE, hoE, Option.none_or, Option.some_or, reduceIte]) hP hS hce hcv hcl (Nat.le_of_ble_eq_true rfl) (Nat.le_of_ble_eq_true rfl)) (fun H locs ho_2 hP hD hS => ?_)
  obtain ⟨i, hiN, rfl⟩ := k_oC_in hN ho_2
  have hi : i < 10 := by omega
  have hcl9 : (nI i).toNatClampNeg = i := nI_clamp (by omega)
  have hP : va_P D vwCl (cu_cw C a (nI N) mn K P) H := hP
  have hD : va_D A (cu_cw C a (nI N) mn K P) := hD
  refine lv_iload_n hx hb dX1_mend_5 rfl (lv_at hl 2 rfl) ?_
  by_cases s_0 : v2 = 0
  · subst s_0
    refine lv_tableIn (off := 26) (tgt := 32) hx hb dX1_mend_6 (by decide) (by decide) (by decide) (by decide) ?_
    refine lv_aload_n hx hb dX1_mend_32 rfl (lv_at hl 0 rfl) ?_
    refine va_get (D := D) (ci := 1) (v := .ref (a 1)) (C := RX1) (T := TX1) (N := 4) hx hb hts hiX1 hown hK hP 0 rfl rfl 0 (by decide) (hts (.fieldLink RX1 11 "CuckooShop" "clocks" "[LCuckooShop$Clock;") (by decide +kernel)) (fun _ h9 => h9) rfl dX1_mend_33 ?_
    refine lv_iload_n hx hb dX1_mend_36 rfl (lv_at hl 1 rfl) ?_
    refine cu_aaldK hi hx hb hK hP dX1_mend_37 ?_
    have sp := cu_spK (C := C) (a := a) (n := (nI N)) (m := mn) (K := K) (P := P) hi (upd (K i) 3 100)
    refine cu_callI (va_runVN (As := []) (rest := []) ⟨hx, hb, hml, hown, hts⟩ ((m_X0_fillOil l D C (a (3 + i)) (K i)) H.size) ⟨(va_cnB 0 hts gX1_mend_X0_fillOil_n69 rfl rfl rfl (hG.2.1 (69, yX0_fillOil) (by decide +kernel)) (hts (.initialized RX0) (by decide +kernel)) (by decide +kernel) ⟨Nat.le_of_ble_eq_true rfl, Nat.le_of_ble_eq_true rfl⟩), hts (.instanceMethod yX0_fillOil) (by decide +kernel), hts (.selects RX0 yX0_fillOil yX0_fillOil) (by decide +kernel)⟩ (cu_preV (ci := 0) sp hG hP hD rfl rfl) rfl rfl hl.1 rfl (lv_room (Nat.le_of_ble_eq_true rfl)) dX1_mend_38 ⟨Nat.le_of_ble_eq_true rfl, Nat.le_of_ble_eq_true rfl⟩) sp hP hD hS hA (fun H locs hP hD hS => ?_)
    have hP : va_P D vwCl (cu_cw C a (nI N) mn (va_up K i (upd (K i) 3 100)) P) H := hP
    have hD : va_D A (cu_cw C a (nI N) mn (va_up K i (upd (K i) 3 100)) P) := hD
    refine W.widen (k := 2) (n := 12) (Nat.le_of_ble_eq_true rfl) (Nat.le_of_ble_eq_true rfl) ?_
    exact fin _ _ _ _ _ rfl (by simp only [k_oE, ho_2, Option.none_or, Option.some_or, reduceIte]) (by simp only [k_mendV, k_mendK, hcl9, reduceIte]) (by simpa only [k_mendV, k_mendK, hcl9, reduceIte] using hP) hS dX1_mend_41
  by_cases s_1 : v2 = 1
  · subst s_1
    refine lv_tableIn (off := 36) (tgt := 42) hx hb dX1_mend_6 (by decide) (by decide) (by decide) (by decide) ?_
    refine lv_aload_n hx hb dX1_mend_42 rfl (lv_at hl 0 rfl) ?_
    refine va_get (D := D) (ci := 1) (v := .ref (a 1)) (C := RX1) (T := TX1) (N := 4) hx hb hts hiX1 hown hK hP 0 rfl rfl 0 (by decide) (hts (.fieldLink RX1 11 "CuckooShop" "clocks" "[LCuckooShop$Clock;") (by decide +kernel)) (fun _ h9 => h9) rfl dX1_mend_43 ?_
    refine lv_iload_n hx hb dX1_mend_46 rfl (lv_at hl 1 rfl) ?_
    refine cu_aaldK hi hx hb hK hP dX1_mend_47 ?_
    have sp := cu_spK (C := C) (a := a) (n := (nI N)) (m := mn) (K := K) (P := P) hi (upd (K i) 4 60)
    refine cu_callI (va_runVN (As := []) (rest := []) ⟨hx, hb, hml, hown, hts⟩ ((m_X0_patchBellows l D C (a (3 + i)) (K i)) H.size) ⟨(va_cnB 0 hts gX1_mend_X0_patchBellows_n72 rfl rfl rfl (hG.2.1 (72, yX0_patchBellows) (by decide +kernel)) (hts (.initialized RX0) (by decide +kernel)) (by decide +kernel) ⟨Nat.le_of_ble_eq_true rfl, Nat.le_of_ble_eq_true rfl⟩), hts (.instanceMethod yX0_patchBellows) (by decide +kernel), hts (.selects RX0 yX0_patchBellows yX0_patchBellows) (by decide +kernel)⟩ (cu_preV (ci := 0) sp hG hP hD rfl rfl) rfl rfl hl.1 rfl (lv_room (Nat.le_of_ble_eq_true rfl)) dX1_mend_48 ⟨Nat.le_of_ble_eq_true rfl, Nat.le_of_ble_eq_true rfl⟩) sp hP hD hS hA (fun H locs hP hD hS => ?_)
    have hP : va_P D vwCl (cu_cw C a (nI N) mn (va_up K i (upd (K i) 4 60)) P) H := hP
    have hD : va_D A (cu_cw C a (nI N) mn (va_up K i (upd (K i) 4 60)) P) := hD
    refine W.widen (k := 2) (n := 12) (Nat.le_of_ble_eq_true rfl) (Nat.le_of_ble_eq_true rfl) ?_
    exact fin _ _ _ _ _ rfl (by simp only [k_oE, ho_2, if_neg s_0, Option.none_or, Option.some_or, reduceIte]) (by simp only [k_mendV, k_mendK, hcl9, if_neg s_0, reduceIte]) (by simpa only [k_mendV, k_mendK, hcl9, if_neg s_0, reduceIte] using hP) hS dX1_mend_51
  by_cases s_2 : v2 = 2
  · subst s_2
    refine lv_tableIn (off := 46) (tgt := 52) hx hb dX1_mend_6 (by decide) (by decide) (by decide) (by decide) ?_
    refine lv_aload_n hx hb dX1_mend_52 rfl (lv_at hl 0 rfl) ?_
    refine va_get (D := D) (ci := 1) (v := .ref (a 1)) (C := RX1) (T := TX1) (N := 4) hx hb hts hiX1 hown hK hP 0 rfl rfl 0 (by decide) (hts (.fieldLink RX1 11 "CuckooShop" "clocks" "[LCuckooShop$Clock;") (by decide +kernel)) (fun _ h9 => h9) rfl dX1_mend_53 ?_
    refine lv_iload_n hx hb dX1_mend_56 rfl (lv_at hl 1 rfl) ?_
    refine cu_aaldK hi hx hb hK hP dX1_mend_57 ?_
    have sp := cu_spK (C := C) (a := a) (n := (nI N)) (m := mn) (K := K) (P := P) hi (upd (K i) 5 (k_nudge (K i)))
    refine cu_callI (va_runVN (As := []) (rest := []) ⟨hx, hb, hml, hown, hts⟩ ((m_X0_nudge l D C (a (3 + i)) (K i)) H.size) ⟨(va_cnB 0 hts gX1_mend_X0_nudge_n75 rfl rfl rfl (hG.2.1 (75, yX0_nudge) (by decide +kernel)) (hts (.initialized RX0) (by decide +kernel)) (by decide +kernel) ⟨Nat.le_of_ble_eq_true rfl, Nat.le_of_ble_eq_true rfl⟩), hts (.instanceMethod yX0_nudge) (by decide +kernel), hts (.selects RX0 yX0_nudge yX0_nudge) (by decide +kernel)⟩ (cu_preV (ci := 0) sp hG hP hD rfl rfl) rfl rfl hl.1 rfl (lv_room (Nat.le_of_ble_eq_true rfl)) dX1_mend_58 ⟨Nat.le_of_ble_eq_true rfl, Nat.le_of_ble_eq_true rfl⟩) sp hP hD hS hA (fun H locs hP hD hS => ?_)
    have hP : va_P D vwCl (cu_cw C a (nI N) mn (va_up K i (upd (K i) 5 (k_nudge (K i)))) P) H := hP
    have hD : va_D A (cu_cw C a (nI N) mn (va_up K i (upd (K i) 5 (k_nudge (K i)))) P) := hD
    refine W.widen (k := 2) (n := 12) (Nat.le_of_ble_eq_true rfl) (Nat.le_of_ble_eq_true rfl) ?_
    exact fin _ _ _ _ _ rfl (by simp only [k_oE, ho_2, if_neg s_0, if_neg s_1, Option.none_or, Option.some_or, reduceIte]) (by simp only [k_mendV, k_mendK, hcl9, if_neg s_0, if_neg s_1, reduceIte]) (by simpa only [k_mendV, k_mendK, hcl9, if_neg s_0, if_neg s_1, reduceIte] using hP) hS dX1_mend_61
  refine lv_tableOut (tgt := 62) hx hb dX1_mend_6 (by have q_0 := cu_ne s_0 0 (by decide); have q_1 := cu_ne s_1 1 (by decide); have q_2 := cu_ne s_2 2 (by decide); omega) (by decide) ?_
  exact thr x_IAE "what is mended is 0 to 2" 47 78 51 _ _ 62 _ _ _ _ cu_th_IAE (hts (.classLink RX1 47 x_IAE) (by decide +kernel)) (hts (.initialized x_IAE) (by decide +kernel)) (by decide +kernel) (by decide +kernel) hS hl.1 dX1_mend_62 dX1_mend_65 dX1_mend_66 dX1_mend_68 dX1_mend_71 (Nat.le_of_ble_eq_true rfl) (Nat.le_of_ble_eq_true rfl) (Nat.le_of_ble_eq_true rfl) (Nat.le_of_ble_eq_true rfl) (Nat.le_of_ble_eq_true rfl) (Nat.le_of_ble_eq_true rfl) (by simp only [k_oE, ho_2, if_neg s_0, if_neg s_1, if_neg s_2, Option.none_or, Option.some_or, reduceIte]) hP

set_option maxHeartbeats 4000000 in
set_option maxRecDepth 100000 in
theorem m_X1_pass (l : Launch) (hlf : l.stackTraces = false) (D : va_G) (C : Nat → ClassId) (a : Nat → Nat) (N : Nat) (hN : N ≤ 10) (mn : Int32) (K P : Nat → Nat → Int32) (v1 : Int32) : cu_XI l D C yX1_pass wsX1_pass { frames := 7, cells := 1, slots := 6, locals := 110 } [.ref (a 0), .int v1] (cu_cw C a (nI N) mn K P) (cu_cw C a (nI N) (mn + v1) (k_at N mn K v1.toNatClampNeg) P) (k_oM v1) (k_calls N mn K v1.toNatClampNeg) 1 6 := by
  refine cu_openXI (cc := cX1_pass) (maxL := 4) (ty := .int) hlf (by decide) rfl rfl (Nat.le_of_ble_eq_true rfl) ?_
  intro p e s m args below meth c A Z H0 ls e0 hx hb hml hts hown hnm hG hP hD hS hA hl hT fin thr prop
  have hK := hG.1
  have hl : lv_has ls 4 [(0, .ref (a 0)), (1, .int v1)] := hl
  have hiX1 : ∀ w ∈ wsX10, w ∈ wsX1_pass := by decide +kernel
  refine lv_iload_n hx hb dX1_pass_0 rfl (lv_at hl 1 rfl) ?_
  have sp := cu_sp.nil (W0 := (cu_cw C a (nI N) mn K P))
  refine cu_callXV (vx_runS (As := [.int v1]) (rest := []) ⟨hx, hb, hml, hown, hts⟩ ((m_X1_checkMinutes l hlf D C v1) H0.size) (va_cwS 1 hts gX1_pass_X1_checkMinutes rfl rfl rfl (by decide +kernel) ⟨Nat.le_of_ble_eq_true rfl, Nat.le_of_ble_eq_true rfl⟩) (cu_preXS sp hG hP hD hT hS hA) rfl rfl hl.1 rfl (lv_room (Nat.le_of_ble_eq_true rfl)) dX1_pass_1 ⟨Nat.le_of_ble_eq_true rfl, Nat.le_of_ble_eq_true rfl⟩) sp hP hD hS hA (fun E ce q9 H locs hoE hP hS hce hcv hcl => prop E ce q9 H locs _ _ _ _ _ (by simp only [hoE, Option.none_or, Option.some_or, reduceIte]) hP hS hce hcv hcl (Nat.le_of_ble_eq_true rfl) (Nat.le_of_ble_eq_true rfl)) (fun H locs ho_1 hP hD hS => ?_)
  obtain ⟨t, ht1, ht2, rfl⟩ := k_oM_in ho_1
  have hcl9 : (nI t).toNatClampNeg = t := nI_clamp (by omega)
  refine lv_iconst (v := 0) hx hb dX1_pass_4 (by decide) ?_
  refine lv_istore_n (lv' := [(2, .int 0), (0, .ref (a 0)), (1, .int (nI t))]) hx hb dX1_pass_5 rfl hl (by decide) rfl (fun ls hl => ?_)
  refine lv_iconst (v := 0) hx hb dX1_pass_6 (by decide) ?_
  refine lv_istore_n (lv' := [(3, .int 0), (2, .int 0), (0, .ref (a 0)), (1, .int (nI t))]) hx hb dX1_pass_7 rfl hl (by decide) rfl (fun ls hl => ?_)
  rw [← k_m0 mn] at hP hD
  have loop : ∀ (j : Nat), ∀ (i : Nat), i + j = t → ∀ (H : Heap) (locs : List Loc) (ls : Array Slot), va_P D vwCl (cu_cw C a (nI N) (mn + nI i) (k_at N mn K i) P) H → va_D A (cu_cw C a (nI N) (mn + nI i) (k_at N mn K i) P) → va_S A H0 H locs → lv_has ls 4 [(0, .ref (a 0)), (1, .int (nI t)), (2, .int (k_calls N mn K i)), (3, .int (nI i))] → W p l e { frames := 7, cells := 1, slots := 6, locals := 110 } s m args below meth c H locs 1 6 Z (F0 m 8 ls []) := by
    intro j
    induction j with
    | zero =>
      intro i hj H locs ls hP hD hS hl
      have eN : i = t := by omega
      refine lv_iload_n hx hb dX1_pass_8 rfl (lv_at hl 3 rfl) ?_
      refine lv_iload_n hx hb dX1_pass_9 rfl (lv_at hl 1 rfl) ?_
      refine lv_icmp_ge (tgt := 44) hx hb dX1_pass_10 (by decide) (fun c_10 => ?_) (fun c_10 => absurd (nI_le (a := t) (by omega) (by omega)) c_10)
      refine lv_iload_n hx hb dX1_pass_44 rfl (lv_at hl 2 rfl) ?_
      refine W.widen (k := 1) (n := 6) (Nat.le_of_ble_eq_true rfl) (Nat.le_of_ble_eq_true rfl) ?_
      exact fin _ _ _ _ _ rfl (by simp only [ho_1, if_pos c_10, Option.none_or, Option.some_or, reduceIte]) (by rw [hcl9, ← eN]) (by rw [hcl9, ← eN]; exact hP) hS dX1_pass_45
    | succ j ih =>
      intro i hj H locs ls hP hD hS hl
      refine lv_iload_n hx hb dX1_pass_8 rfl (lv_at hl 3 rfl) ?_
      refine lv_iload_n hx hb dX1_pass_9 rfl (lv_at hl 1 rfl) ?_
      refine lv_icmp_ge (tgt := 44) hx hb dX1_pass_10 (by decide) (fun c_10 => absurd c_10 (nI_ge (b := t) (by omega) (by omega))) (fun c_10 => ?_)
      refine lv_iload_n hx hb dX1_pass_13 rfl (lv_at hl 2 rfl) ?_
      refine lv_aload_n hx hb dX1_pass_14 rfl (lv_at hl 0 rfl) ?_
      refine lv_aload_n hx hb dX1_pass_15 rfl (lv_at hl 0 rfl) ?_
      refine va_get (D := D) (ci := 1) (v := .ref (a 1)) (C := RX1) (T := TX1) (N := 4) hx hb hts hiX1 hown hK hP 0 rfl rfl 0 (by decide) (hts (.fieldLink RX1 11 "CuckooShop" "clocks" "[LCuckooShop$Clock;") (by decide +kernel)) (fun _ h9 => h9) rfl dX1_pass_16 ?_
      refine lv_aload_n hx hb dX1_pass_19 rfl (lv_at hl 0 rfl) ?_
      refine va_get (D := D) (ci := 1) (v := .int (mn + nI i)) (C := RX1) (T := TX1) (N := 4) hx hb hts hiX1 hown hK hP 0 rfl rfl 3 (by decide) (hts (.fieldLink RX1 23 "CuckooShop" "minute" "I") (by decide +kernel)) (fun _ h9 => h9) rfl dX1_pass_20 ?_
      have sp := cu_sp.all (W0 := (cu_cw C a (nI N) (mn + nI i) (k_at N mn K i) P)) (W1 := (cu_cw C a (nI N) (mn + nI i) (k_upto (k_min (mn + nI i)) (k_at N mn K i) N) P)) cu_cw_fst
      refine cu_callI (va_runV (As := [.ref (a 1), .int (mn + nI i)]) (rest := [.int (k_calls N mn K i)]) ⟨hx, hb, hml, hown, hts⟩ ((m_X1_runRow l D C a N hN (mn + nI i) (k_at N mn K i) P (mn + nI i)) H.size) (cwV 2 hts gX1_pass_X1_runRow rfl rfl rfl (by decide +kernel) ⟨Nat.le_of_ble_eq_true rfl, Nat.le_of_ble_eq_true rfl⟩) (cu_preV (ci := 1) sp hG hP hD rfl rfl) rfl rfl hl.1 rfl (lv_room (Nat.le_of_ble_eq_true rfl)) dX1_pass_23 ⟨Nat.le_of_ble_eq_true rfl, Nat.le_of_ble_eq_true rfl⟩) sp hP hD hS hA (fun H locs hP hD hS => ?_)
      have hP : va_P D vwCl (cu_cw C a (nI N) (mn + nI i) (k_upto (k_min (mn + nI i)) (k_at N mn K i) N) P) H := hP
      have hD : va_D A (cu_cw C a (nI N) (mn + nI i) (k_upto (k_min (mn + nI i)) (k_at N mn K i) N) P) := hD
      have hP : va_P D vwCl (cu_cw C a (nI N) (mn + nI i) (k_at N mn K (i + 1)) P) H := hP
      have hD : va_D A (cu_cw C a (nI N) (mn + nI i) (k_at N mn K (i + 1)) P) := hD
      refine lv_iadd hx hb dX1_pass_26 ?_
      refine lv_istore_n (lv' := [(2, .int ((k_calls N mn K i) + (k_lat N (mn + nI i) (k_at N mn K i)))), (0, .ref (a 0)), (1, .int (nI t)), (3, .int (nI i))]) hx hb dX1_pass_27 rfl hl (by decide) rfl (fun ls hl => ?_)
      refine lv_aload_n hx hb dX1_pass_28 rfl (lv_at hl 1 rfl) ?_
      refine lv_dup hx hb dX1_pass_29 rfl ?_
      refine va_get (D := D) (ci := 1) (v := .int (mn + nI i)) (C := RX1) (T := TX1) (N := 4) hx hb hts hiX1 hown hK hP 0 rfl rfl 3 (by decide) (hts (.fieldLink RX1 23 "CuckooShop" "minute" "I") (by decide +kernel)) (fun _ h9 => h9) rfl dX1_pass_30 ?_
      refine lv_iconst (v := 1) hx hb dX1_pass_33 (by decide) ?_
      refine lv_iadd hx hb dX1_pass_34 ?_
      refine cu_top (x' := mn + nI (i + 1)) (by rw [Int32.add_assoc, nI_1]) ?_
      refine va_put (D := D) (ci := 1) (v := .int (mn + nI (i + 1))) (ty := .int) (C := RX1) (T := TX1) (N := 4) hx hb hts hiX1 tyX1 tyX1_ok nmX1 hown hK hP hD hS 0 rfl rfl 3 (by decide) (hts (.fieldLink RX1 23 "CuckooShop" "minute" "I") (by decide +kernel)) (fun _ h9 => h9) rfl (by decide +kernel) rfl rfl (Nat.le_of_ble_eq_true rfl) dX1_pass_35 (fun H locs hP hD hS => ?_)
      have hP : va_P D vwCl (cu_cw C a (nI N) (mn + nI (i + 1)) (k_at N mn K (i + 1)) P) H := hP
      have hD : va_D A (cu_cw C a (nI N) (mn + nI (i + 1)) (k_at N mn K (i + 1)) P) := hD
      refine lv_iinc (v := (nI (i + 1))) (lv' := [(3, .int (nI (i + 1))), (2, .int ((k_calls N mn K i) + (k_lat N (mn + nI i) (k_at N mn K i)))), (0, .ref (a 0)), (1, .int (nI t))]) hx hb dX1_pass_38 hl (k := 3) rfl (nI_1 i) (by decide) rfl (fun ls hl => ?_)
      refine lv_goto (tgt := 8) hx hb dX1_pass_41 (by decide) ?_
      exact ih (i + 1) (by omega) _ _ _ hP hD hS (lv_sub hl [2, 3, 1, 0] rfl)
  exact loop t 0 (by omega) _ _ _ hP hD hS (lv_sub hl [2, 3, 1, 0] rfl)

set_option maxHeartbeats 4000000 in
set_option maxRecDepth 100000 in
theorem m_X1_next (l : Launch) (hlf : l.stackTraces = false) (D : va_G) (C : Nat → ClassId) (a : Nat → Nat) (N : Nat) (hN : N ≤ 10) (mn : Int32) (K P : Nat → Nat → Int32) (v1 : Int32) (h5 : ∀ c, c < N → K c 5 = 0 ∨ K c 5 = 1) : cu_XI l D C yX1_next wsX1_next { frames := 7, cells := 1, slots := 6, locals := 103 } [.ref (a 0), .int v1] (cu_cw C a (nI N) mn K P) (cu_cw C a (nI N) mn K (va_up P v1.toNatClampNeg (k_nextS mn (K v1.toNatClampNeg) 720 0))) (k_oC N v1) (k_next mn (K v1.toNatClampNeg)) 1 6 := by
  refine cu_openXI (cc := cX1_next) (maxL := 4) (ty := .int) hlf (by decide) rfl rfl (Nat.le_of_ble_eq_true rfl) ?_
  intro p e s m args below meth c A Z H0 ls e0 hx hb hml hts hown hnm hG hP hD hS hA hl hT fin thr prop
  have hK := hG.1
  have hl : lv_has ls 4 [(0, .ref (a 0)), (1, .int v1)] := hl
  have hiX0 : ∀ w ∈ wsX00, w ∈ wsX1_next := by decide +kernel
  have hiX1 : ∀ w ∈ wsX10, w ∈ wsX1_next := by decide +kernel
  refine lv_aload_n hx hb dX1_next_0 rfl (lv_at hl 0 rfl) ?_
  refine lv_iload_n hx hb dX1_next_1 rfl (lv_at hl 1 rfl) ?_
  have sp := cu_sp.all (W0 := (cu_cw C a (nI N) mn K P)) (W1 := (cu_cw C a (nI N) mn K P)) rfl
  refine cu_callXV (vx_runV (As := [.int v1]) (rest := []) ⟨hx, hb, hml, hown, hts⟩ ((m_X1_checkClock l hlf D C a N hN mn K P v1) H0.size) (cwV 1 hts gX1_next_X1_checkClock rfl rfl rfl (by decide +kernel) ⟨Nat.le_of_ble_eq_true rfl, Nat.le_of_ble_eq_true rfl⟩) (cu_preXV (ci := 1) sp hG hP hD hT hS hA rfl rfl) rfl rfl hl.1 rfl (lv_room (Nat.le_of_ble_eq_true rfl)) dX1_next_2 ⟨Nat.le_of_ble_eq_true rfl, Nat.le_of_ble_eq_true rfl⟩) sp hP hD hS hA (fun E ce q9 H locs hoE hP hS hce hcv hcl => prop E ce q9 H locs _ _ _ _ _ (by simp only [hoE, Option.none_or, Option.some_or, reduceIte]) hP hS hce hcv hcl (Nat.le_of_ble_eq_true rfl) (Nat.le_of_ble_eq_true rfl)) (fun H locs ho_2 hP hD hS => ?_)
  obtain ⟨i, hiN, rfl⟩ := k_oC_in hN ho_2
  have hi : i < 10 := by omega
  have hcl9 : (nI i).toNatClampNeg = i := nI_clamp (by omega)
  have hP : va_P D vwCl (cu_cw C a (nI N) mn K P) H := hP
  have hD : va_D A (cu_cw C a (nI N) mn K P) := hD
  refine lv_aload_n hx hb dX1_next_5 rfl (lv_at hl 0 rfl) ?_
  refine va_get (D := D) (ci := 1) (v := .ref (a 2)) (C := RX1) (T := TX1) (N := 4) hx hb hts hiX1 hown hK hP 0 rfl rfl 1 (by decide) (hts (.fieldLink RX1 15 "CuckooShop" "copies" "[LCuckooShop$Clock;") (by decide +kernel)) (fun _ h9 => h9) rfl dX1_next_6 ?_
  refine lv_iload_n hx hb dX1_next_9 rfl (lv_at hl 1 rfl) ?_
  refine cu_aaldP hi hx hb hK hP dX1_next_10 ?_
  refine lv_astore_n (lv' := [(2, .ref (a (13 + i))), (0, .ref (a 0)), (1, .int (nI i))]) hx hb dX1_next_11 rfl hl (by decide) rfl (fun ls hl => ?_)
  refine lv_aload_n hx hb dX1_next_12 rfl (lv_at hl 0 rfl) ?_
  refine lv_aload_n hx hb dX1_next_13 rfl (lv_at hl 1 rfl) ?_
  refine va_get (D := D) (ci := 1) (v := .ref (a 1)) (C := RX1) (T := TX1) (N := 4) hx hb hts hiX1 hown hK hP 0 rfl rfl 0 (by decide) (hts (.fieldLink RX1 11 "CuckooShop" "clocks" "[LCuckooShop$Clock;") (by decide +kernel)) (fun _ h9 => h9) rfl dX1_next_14 ?_
  refine lv_iload_n hx hb dX1_next_17 rfl (lv_at hl 2 rfl) ?_
  refine cu_aaldK hi hx hb hK hP dX1_next_18 ?_
  have sp := cu_spC (C := C) (a := a) (n := (nI N)) (m := mn) (K := K) (P := P) hi
  refine cu_callV (va_runVN (As := [.ref (a (3 + i))]) (rest := []) ⟨hx, hb, hml, hown, hts⟩ ((m_X0_copyFrom l D C (a (13 + i)) (P i) (a (3 + i)) (K i) (h5 i (by omega))) H.size) ⟨(va_cnB 1 hts gX1_next_X0_copyFrom_n107 rfl rfl rfl (hG.2.1 (107, yX0_copyFrom) (by decide +kernel)) (hts (.initialized RX0) (by decide +kernel)) (by decide +kernel) ⟨Nat.le_of_ble_eq_true rfl, Nat.le_of_ble_eq_true rfl⟩), hts (.instanceMethod yX0_copyFrom) (by decide +kernel), hts (.selects RX0 yX0_copyFrom yX0_copyFrom) (by decide +kernel)⟩ (cu_preV (ci := 0) sp hG hP hD rfl rfl) rfl rfl hl.1 rfl (lv_room (Nat.le_of_ble_eq_true rfl)) dX1_next_19 ⟨Nat.le_of_ble_eq_true rfl, Nat.le_of_ble_eq_true rfl⟩) sp hP hD hS hA (fun H locs hP hD hS => ?_)
  have hP : va_P D vwCl (cu_cw C a (nI N) mn K (va_up P i (K i))) H := hP
  have hD : va_D A (cu_cw C a (nI N) mn K (va_up P i (K i))) := hD
  refine lv_iconst (v := 0) hx hb dX1_next_22 (by decide) ?_
  refine lv_istore_n (lv' := [(3, .int 0), (2, .ref (a (13 + i))), (0, .ref (a 0)), (1, .int (nI i))]) hx hb dX1_next_23 rfl hl (by decide) rfl (fun ls hl => ?_)
  have loop : ∀ (j : Nat), ∀ (b : Nat), b + j = 720 → k_nextR mn (K i) j b = k_next mn (K i) → k_nextS mn (K i) j b = k_nextS mn (K i) 720 0 → ∀ (H : Heap) (locs : List Loc) (ls : Array Slot), va_P D vwCl (cu_cw C a (nI N) mn K (va_up P i (k_at1 mn (K i) b))) H → va_D A (cu_cw C a (nI N) mn K (va_up P i (k_at1 mn (K i) b))) → va_S A H0 H locs → lv_has ls 4 [(0, .ref (a 0)), (1, .int (nI i)), (2, .ref (a (13 + i))), (3, .int (nI b))] → W p l e { frames := 7, cells := 1, slots := 6, locals := 103 } s m args below meth c H locs 1 6 Z (F0 m 24 ls []) := by
    intro j
    induction j with
    | zero =>
      intro b hj hf hg H locs ls hP hD hS hl
      refine lv_iload_n hx hb dX1_next_24 rfl (lv_at hl 3 rfl) ?_
      refine lv_sipush (v := 720) hx hb dX1_next_25 (by decide) ?_
      refine lv_icmp_ge (tgt := 58) hx hb dX1_next_28 (by decide) (fun c_28 => ?_) (fun c_28 => absurd (nI_le (a := 720) (by omega) (by omega)) c_28)
      refine lv_iconst (v := -1) hx hb dX1_next_58 (by decide) ?_
      refine W.widen (k := 1) (n := 6) (Nat.le_of_ble_eq_true rfl) (Nat.le_of_ble_eq_true rfl) ?_
      exact fin _ _ _ _ _ rfl (by simp only [ho_2, if_pos c_28, Option.none_or, Option.some_or, reduceIte]) (by rw [hcl9]; exact hf) (by rw [hcl9, ← hg]; exact hP) hS dX1_next_59
    | succ j ih =>
      intro b hj hf hg H locs ls hP hD hS hl
      refine lv_iload_n hx hb dX1_next_24 rfl (lv_at hl 3 rfl) ?_
      refine lv_sipush (v := 720) hx hb dX1_next_25 (by decide) ?_
      refine lv_icmp_ge (tgt := 58) hx hb dX1_next_28 (by decide) (fun c_28 => absurd c_28 (nI_ge (b := 720) (by omega) (by decide))) (fun c_28 => ?_)
      refine lv_aload_n hx hb dX1_next_31 rfl (lv_at hl 2 rfl) ?_
      refine lv_aload_n hx hb dX1_next_32 rfl (lv_at hl 0 rfl) ?_
      refine va_get (D := D) (ci := 1) (v := .int mn) (C := RX1) (T := TX1) (N := 4) hx hb hts hiX1 hown hK hP 0 rfl rfl 3 (by decide) (hts (.fieldLink RX1 23 "CuckooShop" "minute" "I") (by decide +kernel)) (fun _ h9 => h9) rfl dX1_next_33 ?_
      refine lv_iload_n hx hb dX1_next_36 rfl (lv_at hl 3 rfl) ?_
      refine lv_iadd hx hb dX1_next_37 ?_
      have sp := cu_spP (C := C) (a := a) (n := (nI N)) (m := mn) (K := K) (P := (va_up P i (k_at1 mn (K i) b))) hi (k_min (mn + nI b) ((va_up P i (k_at1 mn (K i) b)) i))
      refine cu_callV (va_runVN (As := [.int (mn + nI b)]) (rest := []) ⟨hx, hb, hml, hown, hts⟩ ((m_X0_runMinute l D C (a (13 + i)) ((va_up P i (k_at1 mn (K i) b)) i) (mn + nI b)) H.size) ⟨(va_cnB 1 hts gX1_next_X0_runMinute_n111 rfl rfl rfl (hG.2.1 (111, yX0_runMinute) (by decide +kernel)) (hts (.initialized RX0) (by decide +kernel)) (by decide +kernel) ⟨Nat.le_of_ble_eq_true rfl, Nat.le_of_ble_eq_true rfl⟩), hts (.instanceMethod yX0_runMinute) (by decide +kernel), hts (.selects RX0 yX0_runMinute yX0_runMinute) (by decide +kernel)⟩ (cu_preV (ci := 0) sp hG hP hD rfl rfl) rfl rfl hl.1 rfl (lv_room (Nat.le_of_ble_eq_true rfl)) dX1_next_38 ⟨Nat.le_of_ble_eq_true rfl, Nat.le_of_ble_eq_true rfl⟩) sp hP hD hS hA (fun H locs hP hD hS => ?_)
      have hP : va_P D vwCl (cu_cw C a (nI N) mn K (va_up (va_up P i (k_at1 mn (K i) b)) i (k_min (mn + nI b) ((va_up P i (k_at1 mn (K i) b)) i)))) H := hP
      have hD : va_D A (cu_cw C a (nI N) mn K (va_up (va_up P i (k_at1 mn (K i) b)) i (k_min (mn + nI b) ((va_up P i (k_at1 mn (K i) b)) i)))) := hD
      rw [va_up_self, bx_uu] at hP hD
      have hP : va_P D vwCl (cu_cw C a (nI N) mn K (va_up P i (k_at1 mn (K i) (b + 1)))) H := hP
      have hD : va_D A (cu_cw C a (nI N) mn K (va_up P i (k_at1 mn (K i) (b + 1)))) := hD
      refine lv_aload_n hx hb dX1_next_41 rfl (lv_at hl 2 rfl) ?_
      refine va_getN (host := RX1) (D := D) (ci := 0) (v := .int (((va_up P i (k_at1 mn (K i) (b + 1))) i) 8)) (C := RX0) (T := TX0) (N := 14) hx hb hts hiX0 hown hK hP (13 + i) (cu_cw_P hi) rfl 13 (by decide) (va_Nw.use rfl (hG.2.2.1 (114, "latestCalls", "I") (by decide +kernel))) (fun _ h9 => h9) rfl dX1_next_42 ?_
      refine cu_top (x' := k_at1 mn (K i) (b + 1) 8) (by rw [va_up_self]) ?_
      refine lv_if_le (tgt := 52) hx hb dX1_next_45 (by decide) (fun c_45 => ?_) (fun c_45 => ?_)
      · refine lv_iinc (v := (nI (b + 1))) (lv' := [(3, .int (nI (b + 1))), (0, .ref (a 0)), (1, .int (nI i)), (2, .ref (a (13 + i)))]) hx hb dX1_next_52 hl (k := 3) rfl (nI_1 b) (by decide) rfl (fun ls hl => ?_)
        refine lv_goto (tgt := 24) hx hb dX1_next_55 (by decide) ?_
        exact ih (b + 1) (by omega) (by rw [← hf]; exact (if_pos c_45).symm) (by rw [← hg]; exact (if_pos c_45).symm) _ _ _ hP hD hS (lv_sub hl [1, 2, 3, 0] rfl)
      · refine lv_iload_n hx hb dX1_next_48 rfl (lv_at hl 3 rfl) ?_
        refine lv_iconst (v := 1) hx hb dX1_next_49 (by decide) ?_
        refine lv_iadd hx hb dX1_next_50 ?_
        refine W.widen (k := 1) (n := 6) (Nat.le_of_ble_eq_true rfl) (Nat.le_of_ble_eq_true rfl) ?_
        exact fin _ _ _ _ _ rfl (by simp only [ho_2, if_neg c_28, if_neg c_45, Option.none_or, Option.some_or, reduceIte]) (by rw [hcl9, ← hf]; exact (if_neg c_45).symm) (by rw [hcl9, ← hg, show k_nextS mn (K i) (j + 1) b = k_at1 mn (K i) (b + 1) from if_neg c_45]; exact hP) hS dX1_next_51
  exact loop 720 0 (by omega) rfl rfl _ _ _ hP hD hS (lv_sub hl [2, 3, 1, 0] rfl)

set_option maxHeartbeats 4000000 in
set_option maxRecDepth 100000 in
theorem m_X1_foresee (l : Launch) (hlf : l.stackTraces = false) (D : va_G) (C : Nat → ClassId) (a : Nat → Nat) (N : Nat) (hN : N ≤ 10) (mn : Int32) (K P : Nat → Nat → Int32) (v1 : Int32) (v2 : Int32) (h5 : ∀ c, c < N → K c 5 = 0 ∨ K c 5 = 1) : cu_XI l D C yX1_foresee wsX1_foresee { frames := 7, cells := 2, slots := 12, locals := 110 } [.ref (a 0), .int v1, .int v2] (cu_cw C a (nI N) mn K P) (cu_cw C a (nI N) mn K (k_at N mn (k_cpy K P N) v1.toNatClampNeg)) ((k_oM v1).or (k_oF v2)) (k_fore N mn K (k_cpy K P N) v1.toNatClampNeg v2) 2 12 := by
  refine cu_openXI (cc := cX1_foresee) (maxL := 5) (ty := .int) hlf (by decide) rfl rfl (Nat.le_of_ble_eq_true rfl) ?_
  intro p e s m args below meth c A Z H0 ls e0 hx hb hml hts hown hnm hG hP hD hS hA hl hT fin thr prop
  have hK := hG.1
  have hl : lv_has ls 5 [(0, .ref (a 0)), (1, .int v1), (2, .int v2)] := hl
  have hiX1 : ∀ w ∈ wsX10, w ∈ wsX1_foresee := by decide +kernel
  refine lv_iload_n hx hb dX1_foresee_0 rfl (lv_at hl 1 rfl) ?_
  have sp := cu_sp.nil (W0 := (cu_cw C a (nI N) mn K P))
  refine cu_callXV (vx_runS (As := [.int v1]) (rest := []) ⟨hx, hb, hml, hown, hts⟩ ((m_X1_checkMinutes l hlf D C v1) H0.size) (va_cwS 1 hts gX1_foresee_X1_checkMinutes rfl rfl rfl (by decide +kernel) ⟨Nat.le_of_ble_eq_true rfl, Nat.le_of_ble_eq_true rfl⟩) (cu_preXS sp hG hP hD hT hS hA) rfl rfl hl.1 rfl (lv_room (Nat.le_of_ble_eq_true rfl)) dX1_foresee_1 ⟨Nat.le_of_ble_eq_true rfl, Nat.le_of_ble_eq_true rfl⟩) sp hP hD hS hA (fun E ce q9 H locs hoE hP hS hce hcv hcl => prop E ce q9 H locs _ _ _ _ _ (by simp only [k_oF, hoE, Option.none_or, Option.some_or, reduceIte]) hP hS hce hcv hcl (Nat.le_of_ble_eq_true rfl) (Nat.le_of_ble_eq_true rfl)) (fun H locs ho_1 hP hD hS => ?_)
  obtain ⟨t, ht1, ht2, rfl⟩ := k_oM_in ho_1
  have hcl9 : (nI t).toNatClampNeg = t := nI_clamp (by omega)
  refine lv_iload_n hx hb dX1_foresee_4 rfl (lv_at hl 2 rfl) ?_
  refine lv_iconst (v := 0) hx hb dX1_foresee_5 (by decide) ?_
  refine lv_iconst (v := 3) hx hb dX1_foresee_6 (by decide) ?_
  have sp := cu_sp.nil (W0 := (cu_cw C a (nI N) mn K P))
  refine cu_callI (va_runS (As := [.int v2, .int 0, .int 3]) (rest := []) ⟨hx, hb, hml, hown, hts⟩ ((m_X1_isWithin l D C v2 0 3) H.size) (va_cwS 3 hts gX1_foresee_X1_isWithin rfl rfl rfl (by decide +kernel) ⟨Nat.le_of_ble_eq_true rfl, Nat.le_of_ble_eq_true rfl⟩) (cu_preS sp hG hP hD) rfl rfl hl.1 rfl (lv_room (Nat.le_of_ble_eq_true rfl)) dX1_foresee_7 ⟨Nat.le_of_ble_eq_true rfl, Nat.le_of_ble_eq_true rfl⟩) sp hP hD hS hA (fun H locs hP hD hS => ?_)
  refine lv_if_ne (tgt := 23) hx hb dX1_foresee_10 (by decide) (fun c_10 => ?_) (fun c_10 => ?_)
  · refine lv_aload_n hx hb dX1_foresee_23 rfl (lv_at hl 0 rfl) ?_
    have sp := cu_sp.all (W0 := (cu_cw C a (nI N) mn K P)) (W1 := (cu_cw C a (nI N) mn K (k_cpy K P N))) cu_cw_fst
    refine cu_callV (va_runV (As := []) (rest := []) ⟨hx, hb, hml, hown, hts⟩ ((m_X1_copyClocks l D C a N hN mn K P  h5) H.size) (cwV 0 hts gX1_foresee_X1_copyClocks rfl rfl rfl (by decide +kernel) ⟨Nat.le_of_ble_eq_true rfl, Nat.le_of_ble_eq_true rfl⟩) (cu_preV (ci := 1) sp hG hP hD rfl rfl) rfl rfl hl.1 rfl (lv_room (Nat.le_of_ble_eq_true rfl)) dX1_foresee_24 ⟨Nat.le_of_ble_eq_true rfl, Nat.le_of_ble_eq_true rfl⟩) sp hP hD hS hA (fun H locs hP hD hS => ?_)
    have hP : va_P D vwCl (cu_cw C a (nI N) mn K (k_cpy K P N)) H := hP
    have hD : va_D A (cu_cw C a (nI N) mn K (k_cpy K P N)) := hD
    refine lv_iconst (v := 0) hx hb dX1_foresee_27 (by decide) ?_
    refine lv_istore_n (lv' := [(3, .int 0), (0, .ref (a 0)), (1, .int (nI t)), (2, .int v2)]) hx hb dX1_foresee_28 rfl hl (by decide) rfl (fun ls hl => ?_)
    refine lv_iconst (v := 0) hx hb dX1_foresee_29 (by decide) ?_
    refine lv_istore (lv' := [(4, .int 0), (3, .int 0), (0, .ref (a 0)), (1, .int (nI t)), (2, .int v2)]) hx hb dX1_foresee_30 hl (by decide) rfl (fun ls hl => ?_)
    have loop : ∀ (j : Nat), ∀ (b : Nat), b + j = t → ∀ (H : Heap) (locs : List Loc) (ls : Array Slot), va_P D vwCl (cu_cw C a (nI N) mn K (k_at N mn (k_cpy K P N) b)) H → va_D A (cu_cw C a (nI N) mn K (k_at N mn (k_cpy K P N) b)) → va_S A H0 H locs → lv_has ls 5 [(0, .ref (a 0)), (1, .int (nI t)), (2, .int v2), (3, .int (k_calls N mn (k_cpy K P N) b)), (4, .int (nI b))] → W p l e { frames := 7, cells := 2, slots := 12, locals := 110 } s m args below meth c H locs 1 6 Z (F0 m 32 ls []) := by
      intro j
      induction j with
      | zero =>
        intro b hj H locs ls hP hD hS hl
        have eN : b = t := by omega
        refine lv_iload hx hb dX1_foresee_32 (lv_at hl 4 rfl) ?_
        refine lv_iload_n hx hb dX1_foresee_34 rfl (lv_at hl 1 rfl) ?_
        refine lv_icmp_ge (tgt := 62) hx hb dX1_foresee_35 (by decide) (fun c_35 => ?_) (fun c_35 => absurd (nI_le (a := t) (by omega) (by omega)) c_35)
        refine lv_iload_n hx hb dX1_foresee_62 rfl (lv_at hl 2 rfl) ?_
        by_cases s_0 : v2 = 0
        · subst s_0
          refine lv_tableIn (off := 25) (tgt := 88) hx hb dX1_foresee_63 (by decide) (by decide) (by decide) (by decide) ?_
          refine lv_iload_n hx hb dX1_foresee_88 rfl (lv_at hl 3 rfl) ?_
          refine W.widen (k := 2) (n := 12) (Nat.le_of_ble_eq_true rfl) (Nat.le_of_ble_eq_true rfl) ?_
          exact fin _ _ _ _ _ rfl (by simp only [k_oF, ho_1, if_neg c_10, if_pos c_35, Option.none_or, Option.some_or, reduceIte]) (by rw [hcl9, ← eN]; simp only [k_fore, if_neg c_10, if_pos c_35, reduceIte]) (by rw [hcl9, ← eN]; exact hP) hS dX1_foresee_89
        by_cases s_1 : v2 = 1
        · subst s_1
          refine lv_tableIn (off := 27) (tgt := 90) hx hb dX1_foresee_63 (by decide) (by decide) (by decide) (by decide) ?_
          refine lv_aload_n hx hb dX1_foresee_90 rfl (lv_at hl 0 rfl) ?_
          refine lv_aload_n hx hb dX1_foresee_91 rfl (lv_at hl 0 rfl) ?_
          refine va_get (D := D) (ci := 1) (v := .ref (a 2)) (C := RX1) (T := TX1) (N := 4) hx hb hts hiX1 hown hK hP 0 rfl rfl 1 (by decide) (hts (.fieldLink RX1 15 "CuckooShop" "copies" "[LCuckooShop$Clock;") (by decide +kernel)) (fun _ h9 => h9) rfl dX1_foresee_92 ?_
          refine lv_bipush (v := 8) hx hb dX1_foresee_95 (by decide) ?_
          have sp := cu_sp.all (W0 := (cu_cw C a (nI N) mn K (k_at N mn (k_cpy K P N) b))) (W1 := (cu_cw C a (nI N) mn K (k_at N mn (k_cpy K P N) b))) rfl
          refine cu_callI (va_runV (As := [.ref (a 2), .int 8]) (rest := []) ⟨hx, hb, hml, hown, hts⟩ ((m_X1_sumOfP l D C a N hN mn K (k_at N mn (k_cpy K P N) b) 8) H.size) (cwV 2 hts gX1_foresee_X1_sumOf rfl rfl rfl (by decide +kernel) ⟨Nat.le_of_ble_eq_true rfl, Nat.le_of_ble_eq_true rfl⟩) (cu_preV (ci := 1) sp hG hP hD rfl rfl) rfl rfl hl.1 rfl (lv_room (Nat.le_of_ble_eq_true rfl)) dX1_foresee_97 ⟨Nat.le_of_ble_eq_true rfl, Nat.le_of_ble_eq_true rfl⟩) sp hP hD hS hA (fun H locs hP hD hS => ?_)
          have hP : va_P D vwCl (cu_cw C a (nI N) mn K (k_at N mn (k_cpy K P N) b)) H := hP
          have hD : va_D A (cu_cw C a (nI N) mn K (k_at N mn (k_cpy K P N) b)) := hD
          refine lv_aload_n hx hb dX1_foresee_100 rfl (lv_at hl 0 rfl) ?_
          refine lv_aload_n hx hb dX1_foresee_101 rfl (lv_at hl 0 rfl) ?_
          refine va_get (D := D) (ci := 1) (v := .ref (a 1)) (C := RX1) (T := TX1) (N := 4) hx hb hts hiX1 hown hK hP 0 rfl rfl 0 (by decide) (hts (.fieldLink RX1 11 "CuckooShop" "clocks" "[LCuckooShop$Clock;") (by decide +kernel)) (fun _ h9 => h9) rfl dX1_foresee_102 ?_
          refine lv_bipush (v := 8) hx hb dX1_foresee_105 (by decide) ?_
          have sp := cu_sp.all (W0 := (cu_cw C a (nI N) mn K (k_at N mn (k_cpy K P N) b))) (W1 := (cu_cw C a (nI N) mn K (k_at N mn (k_cpy K P N) b))) rfl
          refine cu_callI (va_runV (As := [.ref (a 1), .int 8]) (rest := [.int (k_all N (k_at N mn (k_cpy K P N) b) 8)]) ⟨hx, hb, hml, hown, hts⟩ ((m_X1_sumOf l D C a N hN mn K (k_at N mn (k_cpy K P N) b) 8) H.size) (cwV 2 hts gX1_foresee_X1_sumOf rfl rfl rfl (by decide +kernel) ⟨Nat.le_of_ble_eq_true rfl, Nat.le_of_ble_eq_true rfl⟩) (cu_preV (ci := 1) sp hG hP hD rfl rfl) rfl rfl hl.1 rfl (lv_room (Nat.le_of_ble_eq_true rfl)) dX1_foresee_107 ⟨Nat.le_of_ble_eq_true rfl, Nat.le_of_ble_eq_true rfl⟩) sp hP hD hS hA (fun H locs hP hD hS => ?_)
          have hP : va_P D vwCl (cu_cw C a (nI N) mn K (k_at N mn (k_cpy K P N) b)) H := hP
          have hD : va_D A (cu_cw C a (nI N) mn K (k_at N mn (k_cpy K P N) b)) := hD
          refine lv_isub hx hb dX1_foresee_110 ?_
          refine W.widen (k := 2) (n := 12) (Nat.le_of_ble_eq_true rfl) (Nat.le_of_ble_eq_true rfl) ?_
          exact fin _ _ _ _ _ rfl (by simp only [k_oF, ho_1, if_neg c_10, if_pos c_35, if_neg s_0, Option.none_or, Option.some_or, reduceIte]) (by rw [hcl9, ← eN]; simp only [k_fore, if_neg c_10, if_pos c_35, if_neg s_0, reduceIte]) (by rw [hcl9, ← eN]; exact hP) hS dX1_foresee_111
        by_cases s_2 : v2 = 2
        · subst s_2
          refine lv_tableIn (off := 49) (tgt := 112) hx hb dX1_foresee_63 (by decide) (by decide) (by decide) (by decide) ?_
          refine lv_aload_n hx hb dX1_foresee_112 rfl (lv_at hl 0 rfl) ?_
          refine lv_aload_n hx hb dX1_foresee_113 rfl (lv_at hl 0 rfl) ?_
          refine va_get (D := D) (ci := 1) (v := .ref (a 2)) (C := RX1) (T := TX1) (N := 4) hx hb hts hiX1 hown hK hP 0 rfl rfl 1 (by decide) (hts (.fieldLink RX1 15 "CuckooShop" "copies" "[LCuckooShop$Clock;") (by decide +kernel)) (fun _ h9 => h9) rfl dX1_foresee_114 ?_
          refine lv_iconst (v := 5) hx hb dX1_foresee_117 (by decide) ?_
          have sp := cu_sp.all (W0 := (cu_cw C a (nI N) mn K (k_at N mn (k_cpy K P N) b))) (W1 := (cu_cw C a (nI N) mn K (k_at N mn (k_cpy K P N) b))) rfl
          refine cu_callI (va_runV (As := [.ref (a 2), .int 5]) (rest := []) ⟨hx, hb, hml, hown, hts⟩ ((m_X1_sumOfP l D C a N hN mn K (k_at N mn (k_cpy K P N) b) 5) H.size) (cwV 2 hts gX1_foresee_X1_sumOf rfl rfl rfl (by decide +kernel) ⟨Nat.le_of_ble_eq_true rfl, Nat.le_of_ble_eq_true rfl⟩) (cu_preV (ci := 1) sp hG hP hD rfl rfl) rfl rfl hl.1 rfl (lv_room (Nat.le_of_ble_eq_true rfl)) dX1_foresee_118 ⟨Nat.le_of_ble_eq_true rfl, Nat.le_of_ble_eq_true rfl⟩) sp hP hD hS hA (fun H locs hP hD hS => ?_)
          have hP : va_P D vwCl (cu_cw C a (nI N) mn K (k_at N mn (k_cpy K P N) b)) H := hP
          have hD : va_D A (cu_cw C a (nI N) mn K (k_at N mn (k_cpy K P N) b)) := hD
          refine W.widen (k := 2) (n := 12) (Nat.le_of_ble_eq_true rfl) (Nat.le_of_ble_eq_true rfl) ?_
          exact fin _ _ _ _ _ rfl (by simp only [k_oF, ho_1, if_neg c_10, if_pos c_35, if_neg s_0, if_neg s_1, Option.none_or, Option.some_or, reduceIte]) (by rw [hcl9, ← eN]; simp only [k_fore, if_neg c_10, if_pos c_35, if_neg s_0, if_neg s_1, reduceIte]) (by rw [hcl9, ← eN]; exact hP) hS dX1_foresee_121
        refine lv_tableOut (tgt := 122) hx hb dX1_foresee_63 (by have q_0 := cu_ne s_0 0 (by decide); have q_1 := cu_ne s_1 1 (by decide); have q_2 := cu_ne s_2 2 (by decide); omega) (by decide) ?_
        refine lv_aload_n hx hb dX1_foresee_122 rfl (lv_at hl 0 rfl) ?_
        refine lv_aload_n hx hb dX1_foresee_123 rfl (lv_at hl 0 rfl) ?_
        refine va_get (D := D) (ci := 1) (v := .ref (a 2)) (C := RX1) (T := TX1) (N := 4) hx hb hts hiX1 hown hK hP 0 rfl rfl 1 (by decide) (hts (.fieldLink RX1 15 "CuckooShop" "copies" "[LCuckooShop$Clock;") (by decide +kernel)) (fun _ h9 => h9) rfl dX1_foresee_124 ?_
        refine lv_aload_n hx hb dX1_foresee_127 rfl (lv_at hl 0 rfl) ?_
        refine va_get (D := D) (ci := 1) (v := .int mn) (C := RX1) (T := TX1) (N := 4) hx hb hts hiX1 hown hK hP 0 rfl rfl 3 (by decide) (hts (.fieldLink RX1 23 "CuckooShop" "minute" "I") (by decide +kernel)) (fun _ h9 => h9) rfl dX1_foresee_128 ?_
        refine lv_iload_n hx hb dX1_foresee_131 rfl (lv_at hl 1 rfl) ?_
        refine lv_iadd hx hb dX1_foresee_132 ?_
        have sp := cu_sp.all (W0 := (cu_cw C a (nI N) mn K (k_at N mn (k_cpy K P N) b))) (W1 := (cu_cw C a (nI N) mn K (k_at N mn (k_cpy K P N) b))) rfl
        refine cu_callI (va_runV (As := [.ref (a 2), .int (mn + nI t)]) (rest := []) ⟨hx, hb, hml, hown, hts⟩ ((m_X1_offOfAllP l D C a N hN mn K (k_at N mn (k_cpy K P N) b) (mn + nI t)) H.size) (cwV 2 hts gX1_foresee_X1_offOfAll rfl rfl rfl (by decide +kernel) ⟨Nat.le_of_ble_eq_true rfl, Nat.le_of_ble_eq_true rfl⟩) (cu_preV (ci := 1) sp hG hP hD rfl rfl) rfl rfl hl.1 rfl (lv_room (Nat.le_of_ble_eq_true rfl)) dX1_foresee_133 ⟨Nat.le_of_ble_eq_true rfl, Nat.le_of_ble_eq_true rfl⟩) sp hP hD hS hA (fun H locs hP hD hS => ?_)
        have hP : va_P D vwCl (cu_cw C a (nI N) mn K (k_at N mn (k_cpy K P N) b)) H := hP
        have hD : va_D A (cu_cw C a (nI N) mn K (k_at N mn (k_cpy K P N) b)) := hD
        refine W.widen (k := 2) (n := 12) (Nat.le_of_ble_eq_true rfl) (Nat.le_of_ble_eq_true rfl) ?_
        exact fin _ _ _ _ _ rfl (by simp only [k_oF, ho_1, if_neg c_10, if_pos c_35, if_neg s_0, if_neg s_1, if_neg s_2, Option.none_or, Option.some_or, reduceIte]) (by rw [hcl9, ← eN]; simp only [k_fore, if_neg c_10, if_pos c_35, if_neg s_0, if_neg s_1, if_neg s_2, reduceIte]) (by rw [hcl9, ← eN]; exact hP) hS dX1_foresee_136
      | succ j ih =>
        intro b hj H locs ls hP hD hS hl
        refine lv_iload hx hb dX1_foresee_32 (lv_at hl 4 rfl) ?_
        refine lv_iload_n hx hb dX1_foresee_34 rfl (lv_at hl 1 rfl) ?_
        refine lv_icmp_ge (tgt := 62) hx hb dX1_foresee_35 (by decide) (fun c_35 => absurd c_35 (nI_ge (b := t) (by omega) (by omega))) (fun c_35 => ?_)
        refine lv_iload_n hx hb dX1_foresee_38 rfl (lv_at hl 3 rfl) ?_
        refine lv_aload_n hx hb dX1_foresee_39 rfl (lv_at hl 0 rfl) ?_
        refine lv_aload_n hx hb dX1_foresee_40 rfl (lv_at hl 0 rfl) ?_
        refine va_get (D := D) (ci := 1) (v := .ref (a 2)) (C := RX1) (T := TX1) (N := 4) hx hb hts hiX1 hown hK hP 0 rfl rfl 1 (by decide) (hts (.fieldLink RX1 15 "CuckooShop" "copies" "[LCuckooShop$Clock;") (by decide +kernel)) (fun _ h9 => h9) rfl dX1_foresee_41 ?_
        refine lv_aload_n hx hb dX1_foresee_44 rfl (lv_at hl 0 rfl) ?_
        refine va_get (D := D) (ci := 1) (v := .int mn) (C := RX1) (T := TX1) (N := 4) hx hb hts hiX1 hown hK hP 0 rfl rfl 3 (by decide) (hts (.fieldLink RX1 23 "CuckooShop" "minute" "I") (by decide +kernel)) (fun _ h9 => h9) rfl dX1_foresee_45 ?_
        refine lv_iload hx hb dX1_foresee_48 (lv_at hl 4 rfl) ?_
        refine lv_iadd hx hb dX1_foresee_50 ?_
        have sp := cu_sp.all (W0 := (cu_cw C a (nI N) mn K (k_at N mn (k_cpy K P N) b))) (W1 := (cu_cw C a (nI N) mn K (k_upto (k_min (mn + nI b)) (k_at N mn (k_cpy K P N) b) N))) cu_cw_fst
        refine cu_callI (va_runV (As := [.ref (a 2), .int (mn + nI b)]) (rest := [.int (k_calls N mn (k_cpy K P N) b)]) ⟨hx, hb, hml, hown, hts⟩ ((m_X1_runRowP l D C a N hN mn K (k_at N mn (k_cpy K P N) b) (mn + nI b)) H.size) (cwV 2 hts gX1_foresee_X1_runRow rfl rfl rfl (by decide +kernel) ⟨Nat.le_of_ble_eq_true rfl, Nat.le_of_ble_eq_true rfl⟩) (cu_preV (ci := 1) sp hG hP hD rfl rfl) rfl rfl hl.1 rfl (lv_room (Nat.le_of_ble_eq_true rfl)) dX1_foresee_51 ⟨Nat.le_of_ble_eq_true rfl, Nat.le_of_ble_eq_true rfl⟩) sp hP hD hS hA (fun H locs hP hD hS => ?_)
        have hP : va_P D vwCl (cu_cw C a (nI N) mn K (k_upto (k_min (mn + nI b)) (k_at N mn (k_cpy K P N) b) N)) H := hP
        have hD : va_D A (cu_cw C a (nI N) mn K (k_upto (k_min (mn + nI b)) (k_at N mn (k_cpy K P N) b) N)) := hD
        have hP : va_P D vwCl (cu_cw C a (nI N) mn K (k_at N mn (k_cpy K P N) (b + 1))) H := hP
        have hD : va_D A (cu_cw C a (nI N) mn K (k_at N mn (k_cpy K P N) (b + 1))) := hD
        refine lv_iadd hx hb dX1_foresee_54 ?_
        refine lv_istore_n (lv' := [(3, .int ((k_calls N mn (k_cpy K P N) b) + (k_lat N (mn + nI b) (k_at N mn (k_cpy K P N) b)))), (0, .ref (a 0)), (1, .int (nI t)), (2, .int v2), (4, .int (nI b))]) hx hb dX1_foresee_55 rfl hl (by decide) rfl (fun ls hl => ?_)
        refine lv_iinc (v := (nI (b + 1))) (lv' := [(4, .int (nI (b + 1))), (3, .int ((k_calls N mn (k_cpy K P N) b) + (k_lat N (mn + nI b) (k_at N mn (k_cpy K P N) b)))), (0, .ref (a 0)), (1, .int (nI t)), (2, .int v2)]) hx hb dX1_foresee_56 hl (k := 4) rfl (nI_1 b) (by decide) rfl (fun ls hl => ?_)
        refine lv_goto (tgt := 32) hx hb dX1_foresee_59 (by decide) ?_
        exact ih (b + 1) (by omega) _ _ _ hP hD hS (lv_sub hl [2, 3, 4, 1, 0] rfl)
    exact loop t 0 (by omega) _ _ _ hP hD hS (lv_sub hl [2, 3, 4, 1, 0] rfl)
  · exact thr x_IOB "what is foreseen is 0 to 3" 86 123 90 _ _ 13 _ _ _ _ cu_th_IOB (hts (.classLink RX1 86 x_IOB) (by decide +kernel)) (hts (.initialized x_IOB) (by decide +kernel)) (by decide +kernel) (by decide +kernel) hS hl.1 dX1_foresee_13 dX1_foresee_16 dX1_foresee_17 dX1_foresee_19 dX1_foresee_22 (Nat.le_of_ble_eq_true rfl) (Nat.le_of_ble_eq_true rfl) (Nat.le_of_ble_eq_true rfl) (Nat.le_of_ble_eq_true rfl) (Nat.le_of_ble_eq_true rfl) (Nat.le_of_ble_eq_true rfl) (by simp only [k_oF, ho_1, if_pos c_10, Option.none_or, Option.some_or, reduceIte]) hP

