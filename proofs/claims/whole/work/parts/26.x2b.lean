set_option maxHeartbeats 4000000 in
set_option maxRecDepth 100000 in
theorem m_X2_clockTold (l : Launch) (D : va_G) (C : Nat → ClassId) (o r q : Nat) (th : Int32) (N : Nat) (hN : N ≤ 10) (mn : Int32) (K : Nat → Nat → Int32) (i : Nat) (hi : i < 10) (Y : Nat → Int32) (hY : K i = Y) (hok : k_ok Y) (w : Nat) (hw : w < 11) (v2 : Int32) (hv2 : v2 = nI w) : cu_I l D C yX2_clockTold wsX2_clockTold { frames := 3, cells := 0, slots := 0, locals := 67 } [.ref o, .int (nI i), .int v2] (cu_mw C o r q th (nI N) mn K) (cu_mw C o r q th (nI N) mn K) (k_read Y v2) 0 0 := by
  refine cu_openI (cc := cX2_clockTold) (maxL := 3) (ty := .int) (own := RX2) (by decide) rfl rfl (Nat.le_of_ble_eq_true rfl) ?_
  intro p e s m args below meth c A Z H0 ls e0 hx hb hml hts hown hnm hG hP hD hS hA hl fin
  have hK := hG.1
  have hl : lv_has ls 3 [(0, .ref o), (1, .int (nI i)), (2, .int v2)] := hl
  subst hY
  refine lv_iload_n hx hb dX2_clockTold_0 rfl (lv_at hl 2 rfl) ?_
  by_cases s_6 : v2 = 6
  · subst s_6
    refine lv_tableIn (off := 35) (tgt := 36) hx hb dX2_clockTold_1 (by decide) (by decide) (by decide) (by decide) ?_
    refine lv_aload_n hx hb dX2_clockTold_36 rfl (lv_at hl 0 rfl) ?_
    refine lv_iload_n hx hb dX2_clockTold_37 rfl (lv_at hl 1 rfl) ?_
    have sp := cu_sp.all (W0 := (cu_mw C o r q th (nI N) mn K)) (W1 := (cu_mw C o r q th (nI N) mn K)) rfl
    refine cu_callI (va_runV (As := [.int (nI i)]) (rest := []) ⟨hx, hb, hml, hown, hts⟩ ((m_X2_advance_ l D C o r q th N hN mn K i hi (K i) rfl  (k_b0 hok)) H0.size) (cwV 1 hts gX2_clockTold_X2_advance_ rfl rfl rfl (by decide +kernel) ⟨Nat.le_of_ble_eq_true rfl, Nat.le_of_ble_eq_true rfl⟩) (cu_preV (ci := 2) sp hG hP hD rfl rfl) rfl rfl hl.1 rfl (lv_room (Nat.le_of_ble_eq_true rfl)) dX2_clockTold_38 ⟨Nat.le_of_ble_eq_true rfl, Nat.le_of_ble_eq_true rfl⟩) sp hP hD hS hA (fun H locs hP hD hS => ?_)
    have hP : va_P D vwCl (cu_mw C o r q th (nI N) mn K) H := hP
    have hD : va_D A (cu_mw C o r q th (nI N) mn K) := hD
    exact fin _ _ _ _ _ rfl (by rfl) hP hS dX2_clockTold_41
  by_cases s_7 : v2 = 7
  · subst s_7
    refine lv_tableIn (off := 41) (tgt := 42) hx hb dX2_clockTold_1 (by decide) (by decide) (by decide) (by decide) ?_
    refine lv_aload_n hx hb dX2_clockTold_42 rfl (lv_at hl 0 rfl) ?_
    refine lv_iload_n hx hb dX2_clockTold_43 rfl (lv_at hl 1 rfl) ?_
    refine lv_bipush (v := 6) hx hb dX2_clockTold_44 (by decide) ?_
    have sp := cu_sp.all (W0 := (cu_mw C o r q th (nI N) mn K)) (W1 := (cu_mw C o r q th (nI N) mn K)) rfl
    refine cu_callI (va_runV (As := [.int (nI i), .int 6]) (rest := []) ⟨hx, hb, hml, hown, hts⟩ ((m_X2_sh l D C o r q th N hN mn K i 6 hi (by decide) (K i 6) rfl) H0.size) (cwV 2 hts gX2_clockTold_X2_sh rfl rfl rfl (by decide +kernel) ⟨Nat.le_of_ble_eq_true rfl, Nat.le_of_ble_eq_true rfl⟩) (cu_preV (ci := 2) sp hG hP hD rfl rfl) rfl rfl hl.1 rfl (lv_room (Nat.le_of_ble_eq_true rfl)) dX2_clockTold_46 ⟨Nat.le_of_ble_eq_true rfl, Nat.le_of_ble_eq_true rfl⟩) sp hP hD hS hA (fun H locs hP hD hS => ?_)
    have hP : va_P D vwCl (cu_mw C o r q th (nI N) mn K) H := hP
    have hD : va_D A (cu_mw C o r q th (nI N) mn K) := hD
    exact fin _ _ _ _ _ rfl (by rfl) hP hS dX2_clockTold_49
  by_cases s_8 : v2 = 8
  · subst s_8
    refine lv_tableIn (off := 49) (tgt := 50) hx hb dX2_clockTold_1 (by decide) (by decide) (by decide) (by decide) ?_
    refine lv_aload_n hx hb dX2_clockTold_50 rfl (lv_at hl 0 rfl) ?_
    refine lv_iload_n hx hb dX2_clockTold_51 rfl (lv_at hl 1 rfl) ?_
    refine lv_bipush (v := 7) hx hb dX2_clockTold_52 (by decide) ?_
    have sp := cu_sp.all (W0 := (cu_mw C o r q th (nI N) mn K)) (W1 := (cu_mw C o r q th (nI N) mn K)) rfl
    refine cu_callI (va_runV (As := [.int (nI i), .int 7]) (rest := []) ⟨hx, hb, hml, hown, hts⟩ ((m_X2_sh l D C o r q th N hN mn K i 7 hi (by decide) (K i 7) rfl) H0.size) (cwV 2 hts gX2_clockTold_X2_sh rfl rfl rfl (by decide +kernel) ⟨Nat.le_of_ble_eq_true rfl, Nat.le_of_ble_eq_true rfl⟩) (cu_preV (ci := 2) sp hG hP hD rfl rfl) rfl rfl hl.1 rfl (lv_room (Nat.le_of_ble_eq_true rfl)) dX2_clockTold_54 ⟨Nat.le_of_ble_eq_true rfl, Nat.le_of_ble_eq_true rfl⟩) sp hP hD hS hA (fun H locs hP hD hS => ?_)
    have hP : va_P D vwCl (cu_mw C o r q th (nI N) mn K) H := hP
    have hD : va_D A (cu_mw C o r q th (nI N) mn K) := hD
    exact fin _ _ _ _ _ rfl (by rfl) hP hS dX2_clockTold_57
  by_cases s_9 : v2 = 9
  · subst s_9
    refine lv_tableIn (off := 57) (tgt := 58) hx hb dX2_clockTold_1 (by decide) (by decide) (by decide) (by decide) ?_
    refine lv_aload_n hx hb dX2_clockTold_58 rfl (lv_at hl 0 rfl) ?_
    refine lv_iload_n hx hb dX2_clockTold_59 rfl (lv_at hl 1 rfl) ?_
    refine lv_bipush (v := 8) hx hb dX2_clockTold_60 (by decide) ?_
    have sp := cu_sp.all (W0 := (cu_mw C o r q th (nI N) mn K)) (W1 := (cu_mw C o r q th (nI N) mn K)) rfl
    refine cu_callI (va_runV (As := [.int (nI i), .int 8]) (rest := []) ⟨hx, hb, hml, hown, hts⟩ ((m_X2_sh l D C o r q th N hN mn K i 8 hi (by decide) (K i 8) rfl) H0.size) (cwV 2 hts gX2_clockTold_X2_sh rfl rfl rfl (by decide +kernel) ⟨Nat.le_of_ble_eq_true rfl, Nat.le_of_ble_eq_true rfl⟩) (cu_preV (ci := 2) sp hG hP hD rfl rfl) rfl rfl hl.1 rfl (lv_room (Nat.le_of_ble_eq_true rfl)) dX2_clockTold_62 ⟨Nat.le_of_ble_eq_true rfl, Nat.le_of_ble_eq_true rfl⟩) sp hP hD hS hA (fun H locs hP hD hS => ?_)
    have hP : va_P D vwCl (cu_mw C o r q th (nI N) mn K) H := hP
    have hD : va_D A (cu_mw C o r q th (nI N) mn K) := hD
    exact fin _ _ _ _ _ rfl (by rfl) hP hS dX2_clockTold_65
  by_cases s_10 : v2 = 10
  · subst s_10
    refine lv_tableIn (off := 65) (tgt := 66) hx hb dX2_clockTold_1 (by decide) (by decide) (by decide) (by decide) ?_
    refine lv_aload_n hx hb dX2_clockTold_66 rfl (lv_at hl 0 rfl) ?_
    refine lv_iload_n hx hb dX2_clockTold_67 rfl (lv_at hl 1 rfl) ?_
    have sp := cu_sp.all (W0 := (cu_mw C o r q th (nI N) mn K)) (W1 := (cu_mw C o r q th (nI N) mn K)) rfl
    refine cu_callI (va_runV (As := [.int (nI i)]) (rest := []) ⟨hx, hb, hml, hown, hts⟩ ((m_X2_isShut l D C o r q th N hN mn K i hi (K i) rfl  hok.c) H0.size) (cwV 1 hts gX2_clockTold_X2_isShut rfl rfl rfl (by decide +kernel) ⟨Nat.le_of_ble_eq_true rfl, Nat.le_of_ble_eq_true rfl⟩) (cu_preV (ci := 2) sp hG hP hD rfl rfl) rfl rfl hl.1 rfl (lv_room (Nat.le_of_ble_eq_true rfl)) dX2_clockTold_68 ⟨Nat.le_of_ble_eq_true rfl, Nat.le_of_ble_eq_true rfl⟩) sp hP hD hS hA (fun H locs hP hD hS => ?_)
    have hP : va_P D vwCl (cu_mw C o r q th (nI N) mn K) H := hP
    have hD : va_D A (cu_mw C o r q th (nI N) mn K) := hD
    refine lv_if_eq (tgt := 78) hx hb dX2_clockTold_71 (by decide) (fun c_71 => ?_) (fun c_71 => ?_)
    · refine lv_iconst (v := 0) hx hb dX2_clockTold_78 (by decide) ?_
      exact fin _ _ _ _ _ rfl (by rw [k_read_10]; simp only [if_neg s_6, if_neg s_7, if_neg s_8, if_neg s_9, if_pos c_71]) hP hS dX2_clockTold_79
    · refine lv_iconst (v := 1) hx hb dX2_clockTold_74 (by decide) ?_
      refine lv_goto (tgt := 79) hx hb dX2_clockTold_75 (by decide) ?_
      exact fin _ _ _ _ _ rfl (by rw [k_read_10]; simp only [if_neg s_6, if_neg s_7, if_neg s_8, if_neg s_9, if_neg c_71]) hP hS dX2_clockTold_79
  refine lv_tableOut (tgt := 80) hx hb dX2_clockTold_1 (by have q_6 := cu_ne s_6 6 (by decide); have q_7 := cu_ne s_7 7 (by decide); have q_8 := cu_ne s_8 8 (by decide); have q_9 := cu_ne s_9 9 (by decide); have q_10 := cu_ne s_10 10 (by decide); omega) (by decide) ?_
  have hw6 : w < 6 := k_lt6 hw hv2 s_6 s_7 s_8 s_9 s_10
  have hw : w < 14 := by omega
  subst hv2
  refine lv_aload_n hx hb dX2_clockTold_80 rfl (lv_at hl 0 rfl) ?_
  refine lv_iload_n hx hb dX2_clockTold_81 rfl (lv_at hl 1 rfl) ?_
  refine lv_iload_n hx hb dX2_clockTold_82 rfl (lv_at hl 2 rfl) ?_
  have sp := cu_sp.all (W0 := (cu_mw C o r q th (nI N) mn K)) (W1 := (cu_mw C o r q th (nI N) mn K)) rfl
  refine cu_callI (va_runV (As := [.int (nI i), .int (nI w)]) (rest := []) ⟨hx, hb, hml, hown, hts⟩ ((m_X2_sh l D C o r q th N hN mn K i w hi (by omega) (K i w) rfl) H0.size) (cwV 2 hts gX2_clockTold_X2_sh rfl rfl rfl (by decide +kernel) ⟨Nat.le_of_ble_eq_true rfl, Nat.le_of_ble_eq_true rfl⟩) (cu_preV (ci := 2) sp hG hP hD rfl rfl) rfl rfl hl.1 rfl (lv_room (Nat.le_of_ble_eq_true rfl)) dX2_clockTold_83 ⟨Nat.le_of_ble_eq_true rfl, Nat.le_of_ble_eq_true rfl⟩) sp hP hD hS hA (fun H locs hP hD hS => ?_)
  have hP : va_P D vwCl (cu_mw C o r q th (nI N) mn K) H := hP
  have hD : va_D A (cu_mw C o r q th (nI N) mn K) := hD
  exact fin _ _ _ _ _ rfl (by exact k_read_lo (k_ok_5 hok) (by omega)) hP hS dX2_clockTold_86

set_option maxHeartbeats 4000000 in
set_option maxRecDepth 100000 in
theorem m_X2_all (l : Launch) (D : va_G) (C : Nat → ClassId) (o r q : Nat) (th : Int32) (N : Nat) (hN : N ≤ 10) (mn : Int32) (K : Nat → Nat → Int32) (w : Nat) (hw : w < 14) : cu_I l D C yX2_all wsX2_all { frames := 1, cells := 0, slots := 0, locals := 22 } [.ref o, .int (nI w)] (cu_mw C o r q th (nI N) mn K) (cu_mw C o r q th (nI N) mn K) (k_sum (fun c => K c w) N) 0 0 := by
  refine cu_openI (cc := cX2_all) (maxL := 4) (ty := .int) (own := RX2) (by decide) rfl rfl (Nat.le_of_ble_eq_true rfl) ?_
  intro p e s m args below meth c A Z H0 ls e0 hx hb hml hts hown hnm hG hP hD hS hA hl fin
  have hK := hG.1
  have hl : lv_has ls 4 [(0, .ref o), (1, .int (nI w))] := hl
  have hiX2 : ∀ w ∈ wsX20, w ∈ wsX2_all := by decide +kernel
  refine lv_iconst (v := 0) hx hb dX2_all_0 (by decide) ?_
  refine lv_istore_n (lv' := [(2, .int 0), (0, .ref o), (1, .int (nI w))]) hx hb dX2_all_1 rfl hl (by decide) rfl (fun ls hl => ?_)
  refine lv_iconst (v := 0) hx hb dX2_all_2 (by decide) ?_
  refine lv_istore_n (lv' := [(3, .int 0), (2, .int 0), (0, .ref o), (1, .int (nI w))]) hx hb dX2_all_3 rfl hl (by decide) rfl (fun ls hl => ?_)
  have loop : ∀ (j : Nat), ∀ (i : Nat), i + j = N → ∀ (H : Heap) (locs : List Loc) (ls : Array Slot), va_P D vwCl (cu_mw C o r q th (nI N) mn K) H → va_D A (cu_mw C o r q th (nI N) mn K) → va_S A H0 H locs → lv_has ls 4 [(0, .ref o), (1, .int (nI w)), (2, .int (k_sum (fun c => K c w) i)), (3, .int (nI i))] → W p l e { frames := 1, cells := 0, slots := 0, locals := 22 } s m args below meth c H locs 0 0 Z (F0 m 4 ls []) := by
    intro j
    induction j with
    | zero =>
      intro i hj H locs ls hP hD hS hl
      have eN : i = N := by omega
      refine lv_iload_n hx hb dX2_all_4 rfl (lv_at hl 3 rfl) ?_
      refine lv_aload_n hx hb dX2_all_5 rfl (lv_at hl 0 rfl) ?_
      refine va_get (D := D) (ci := 2) (v := .int (nI N)) (C := RX2) (T := TX2) (N := 4) hx hb hts hiX2 hown hK hP 0 rfl rfl 1 (by decide) (hts (.fieldLink RX2 20 "CuckooShopModel" "clocks" "I") (by decide +kernel)) (fun _ h9 => h9) rfl dX2_all_6 ?_
      refine lv_icmp_ge (tgt := 27) hx hb dX2_all_9 (by decide) (fun c_9 => ?_) (fun c_9 => absurd (nI_le (a := N) (by omega) (by omega)) c_9)
      refine lv_iload_n hx hb dX2_all_27 rfl (lv_at hl 2 rfl) ?_
      exact fin _ _ _ _ _ rfl (by rw [eN]) hP hS dX2_all_28
    | succ j ih =>
      intro i hj H locs ls hP hD hS hl
      have hi : i < 10 := by omega
      refine lv_iload_n hx hb dX2_all_4 rfl (lv_at hl 3 rfl) ?_
      refine lv_aload_n hx hb dX2_all_5 rfl (lv_at hl 0 rfl) ?_
      refine va_get (D := D) (ci := 2) (v := .int (nI N)) (C := RX2) (T := TX2) (N := 4) hx hb hts hiX2 hown hK hP 0 rfl rfl 1 (by decide) (hts (.fieldLink RX2 20 "CuckooShopModel" "clocks" "I") (by decide +kernel)) (fun _ h9 => h9) rfl dX2_all_6 ?_
      refine lv_icmp_ge (tgt := 27) hx hb dX2_all_9 (by decide) (fun c_9 => absurd c_9 (nI_ge (b := N) (by omega) (by omega))) (fun c_9 => ?_)
      refine lv_iload_n hx hb dX2_all_12 rfl (lv_at hl 2 rfl) ?_
      refine lv_aload_n hx hb dX2_all_13 rfl (lv_at hl 0 rfl) ?_
      refine lv_iload_n hx hb dX2_all_14 rfl (lv_at hl 3 rfl) ?_
      refine lv_iload_n hx hb dX2_all_15 rfl (lv_at hl 1 rfl) ?_
      have sp := cu_sp.all (W0 := (cu_mw C o r q th (nI N) mn K)) (W1 := (cu_mw C o r q th (nI N) mn K)) rfl
      refine cu_callI (va_runV (As := [.int (nI i), .int (nI w)]) (rest := [.int (k_sum (fun c => K c w) i)]) ⟨hx, hb, hml, hown, hts⟩ ((m_X2_sh l D C o r q th N hN mn K i w hi (by omega) (K i w) rfl) H.size) (cwV 2 hts gX2_all_X2_sh rfl rfl rfl (by decide +kernel) ⟨Nat.le_of_ble_eq_true rfl, Nat.le_of_ble_eq_true rfl⟩) (cu_preV (ci := 2) sp hG hP hD rfl rfl) rfl rfl hl.1 rfl (lv_room (Nat.le_of_ble_eq_true rfl)) dX2_all_16 ⟨Nat.le_of_ble_eq_true rfl, Nat.le_of_ble_eq_true rfl⟩) sp hP hD hS hA (fun H locs hP hD hS => ?_)
      have hP : va_P D vwCl (cu_mw C o r q th (nI N) mn K) H := hP
      have hD : va_D A (cu_mw C o r q th (nI N) mn K) := hD
      refine lv_iadd hx hb dX2_all_19 ?_
      refine lv_istore_n (lv' := [(2, .int ((k_sum (fun c => K c w) i) + (K i w))), (0, .ref o), (1, .int (nI w)), (3, .int (nI i))]) hx hb dX2_all_20 rfl hl (by decide) rfl (fun ls hl => ?_)
      refine lv_iinc (v := (nI (i + 1))) (lv' := [(3, .int (nI (i + 1))), (2, .int ((k_sum (fun c => K c w) i) + (K i w))), (0, .ref o), (1, .int (nI w))]) hx hb dX2_all_21 hl (k := 3) rfl (nI_1 i) (by decide) rfl (fun ls hl => ?_)
      refine lv_goto (tgt := 4) hx hb dX2_all_24 (by decide) ?_
      exact ih (i + 1) (by omega) _ _ _ hP hD hS (lv_sub hl [2, 3, 1, 0] rfl)
  exact loop N 0 (by omega) _ _ _ hP hD hS (lv_sub hl [2, 3, 1, 0] rfl)

theorem k_tally_r {N : Nat} {K : Nat → Nat → Int32} {mn v1 : Int32} (h : v1 = 6 ∨ v1 = 7) : k_sum (fun c => if v1 = 7 then k_abs (k_off (K c) mn) else if k_off (K c) mn = 0 then 1 else 0) N = k_tally N K mn v1 := by
  rcases h with rfl | rfl
  · exact k_sum_c N (fun c _ => rfl)
  · exact k_sum_c N (fun c _ => rfl)

set_option maxHeartbeats 4000000 in
set_option maxRecDepth 100000 in
theorem m_X2_counted (l : Launch) (D : va_G) (C : Nat → ClassId) (o r q : Nat) (th : Int32) (N : Nat) (hN : N ≤ 10) (mn : Int32) (K : Nat → Nat → Int32) (hok : ∀ c, c < N → k_ok (K c)) (hm : 0 ≤ mn.toInt) (w : Nat) (hw : w < 8) (v1 : Int32) (hv1 : v1 = nI w) : cu_I l D C yX2_counted wsX2_counted { frames := 2, cells := 0, slots := 0, locals := 45 } [.ref o, .int v1] (cu_mw C o r q th (nI N) mn K) (cu_mw C o r q th (nI N) mn K) (k_tally N K mn v1) 0 0 := by
  refine cu_openI (cc := cX2_counted) (maxL := 4) (ty := .int) (own := RX2) (by decide) rfl rfl (Nat.le_of_ble_eq_true rfl) ?_
  intro p e s m args below meth c A Z H0 ls e0 hx hb hml hts hown hnm hG hP hD hS hA hl fin
  have hK := hG.1
  have hl : lv_has ls 4 [(0, .ref o), (1, .int v1)] := hl
  have hiX2 : ∀ w ∈ wsX20, w ∈ wsX2_counted := by decide +kernel
  refine lv_iconst (v := 0) hx hb dX2_counted_0 (by decide) ?_
  refine lv_istore_n (lv' := [(2, .int 0), (0, .ref o), (1, .int v1)]) hx hb dX2_counted_1 rfl hl (by decide) rfl (fun ls hl => ?_)
  refine lv_iload_n hx hb dX2_counted_2 rfl (lv_at hl 2 rfl) ?_
  by_cases s_0 : v1 = 0
  · subst s_0
    refine lv_tableIn (off := 37) (tgt := 40) hx hb dX2_counted_3 (by decide) (by decide) (by decide) (by decide) ?_
    refine lv_aload_n hx hb dX2_counted_40 rfl (lv_at hl 1 rfl) ?_
    refine va_get (D := D) (ci := 2) (v := .ref q) (C := RX2) (T := TX2) (N := 4) hx hb hts hiX2 hown hK hP 0 rfl rfl 3 (by decide) (hts (.fieldLink RX2 13 "CuckooShopModel" "minute" "[I") (by decide +kernel)) (fun _ h9 => h9) rfl dX2_counted_41 ?_
    refine lv_iconst (v := 0) hx hb dX2_counted_44 (by decide) ?_
    refine va_iald (n := 1) (f := fun _ => mn) hx hb hK hP 2 0 rfl rfl (vp_in_nI (n := 0) (by decide) (by decide)) dX2_counted_45 ?_
    refine cu_top (x' := mn) rfl ?_
    exact fin _ _ _ _ _ rfl (by rfl) hP hS dX2_counted_46
  by_cases s_1 : v1 = 1
  · subst s_1
    refine lv_tableIn (off := 44) (tgt := 47) hx hb dX2_counted_3 (by decide) (by decide) (by decide) (by decide) ?_
    refine lv_aload_n hx hb dX2_counted_47 rfl (lv_at hl 1 rfl) ?_
    refine va_get (D := D) (ci := 2) (v := .ref q) (C := RX2) (T := TX2) (N := 4) hx hb hts hiX2 hown hK hP 0 rfl rfl 3 (by decide) (hts (.fieldLink RX2 13 "CuckooShopModel" "minute" "[I") (by decide +kernel)) (fun _ h9 => h9) rfl dX2_counted_48 ?_
    refine lv_iconst (v := 0) hx hb dX2_counted_51 (by decide) ?_
    refine va_iald (n := 1) (f := fun _ => mn) hx hb hK hP 2 0 rfl rfl (vp_in_nI (n := 0) (by decide) (by decide)) dX2_counted_52 ?_
    refine cu_top (x' := mn) rfl ?_
    refine lv_sipush (v := 720) hx hb dX2_counted_53 (by decide) ?_
    refine lv_irem hx hb dX2_counted_56 (by decide) ?_
    exact fin _ _ _ _ _ rfl (by exact k_tt_M hm) hP hS dX2_counted_57
  by_cases s_2 : v1 = 2
  · subst s_2
    refine lv_tableIn (off := 55) (tgt := 58) hx hb dX2_counted_3 (by decide) (by decide) (by decide) (by decide) ?_
    refine lv_aload_n hx hb dX2_counted_58 rfl (lv_at hl 1 rfl) ?_
    refine va_get (D := D) (ci := 2) (v := .int (nI N)) (C := RX2) (T := TX2) (N := 4) hx hb hts hiX2 hown hK hP 0 rfl rfl 1 (by decide) (hts (.fieldLink RX2 20 "CuckooShopModel" "clocks" "I") (by decide +kernel)) (fun _ h9 => h9) rfl dX2_counted_59 ?_
    exact fin _ _ _ _ _ rfl (by rfl) hP hS dX2_counted_62
  by_cases s_3 : v1 = 3
  · subst s_3
    refine lv_tableIn (off := 60) (tgt := 63) hx hb dX2_counted_3 (by decide) (by decide) (by decide) (by decide) ?_
    refine lv_aload_n hx hb dX2_counted_63 rfl (lv_at hl 1 rfl) ?_
    refine lv_iconst (v := 5) hx hb dX2_counted_64 (by decide) ?_
    have sp := cu_sp.all (W0 := (cu_mw C o r q th (nI N) mn K)) (W1 := (cu_mw C o r q th (nI N) mn K)) rfl
    refine cu_callI (va_runV (As := [.int 5]) (rest := []) ⟨hx, hb, hml, hown, hts⟩ ((m_X2_all l D C o r q th N hN mn K 5 (by decide)) H0.size) (cwV 1 hts gX2_counted_X2_all rfl rfl rfl (by decide +kernel) ⟨Nat.le_of_ble_eq_true rfl, Nat.le_of_ble_eq_true rfl⟩) (cu_preV (ci := 2) sp hG hP hD rfl rfl) rfl rfl hl.1 rfl (lv_room (Nat.le_of_ble_eq_true rfl)) dX2_counted_65 ⟨Nat.le_of_ble_eq_true rfl, Nat.le_of_ble_eq_true rfl⟩) sp hP hD hS hA (fun H locs hP hD hS => ?_)
    have hP : va_P D vwCl (cu_mw C o r q th (nI N) mn K) H := hP
    have hD : va_D A (cu_mw C o r q th (nI N) mn K) := hD
    exact fin _ _ _ _ _ rfl (by exact k_sum_c N (fun c hc => k_read_lo (k_ok_5 (hok c hc)) (by decide))) hP hS dX2_counted_68
  by_cases s_4 : v1 = 4
  · subst s_4
    refine lv_tableIn (off := 66) (tgt := 69) hx hb dX2_counted_3 (by decide) (by decide) (by decide) (by decide) ?_
    refine lv_aload_n hx hb dX2_counted_69 rfl (lv_at hl 1 rfl) ?_
    refine lv_bipush (v := 6) hx hb dX2_counted_70 (by decide) ?_
    have sp := cu_sp.all (W0 := (cu_mw C o r q th (nI N) mn K)) (W1 := (cu_mw C o r q th (nI N) mn K)) rfl
    refine cu_callI (va_runV (As := [.int 6]) (rest := []) ⟨hx, hb, hml, hown, hts⟩ ((m_X2_all l D C o r q th N hN mn K 6 (by decide)) H0.size) (cwV 1 hts gX2_counted_X2_all rfl rfl rfl (by decide +kernel) ⟨Nat.le_of_ble_eq_true rfl, Nat.le_of_ble_eq_true rfl⟩) (cu_preV (ci := 2) sp hG hP hD rfl rfl) rfl rfl hl.1 rfl (lv_room (Nat.le_of_ble_eq_true rfl)) dX2_counted_72 ⟨Nat.le_of_ble_eq_true rfl, Nat.le_of_ble_eq_true rfl⟩) sp hP hD hS hA (fun H locs hP hD hS => ?_)
    have hP : va_P D vwCl (cu_mw C o r q th (nI N) mn K) H := hP
    have hD : va_D A (cu_mw C o r q th (nI N) mn K) := hD
    exact fin _ _ _ _ _ rfl (by rfl) hP hS dX2_counted_75
  by_cases s_5 : v1 = 5
  · subst s_5
    refine lv_tableIn (off := 73) (tgt := 76) hx hb dX2_counted_3 (by decide) (by decide) (by decide) (by decide) ?_
    refine lv_aload_n hx hb dX2_counted_76 rfl (lv_at hl 1 rfl) ?_
    refine lv_bipush (v := 8) hx hb dX2_counted_77 (by decide) ?_
    have sp := cu_sp.all (W0 := (cu_mw C o r q th (nI N) mn K)) (W1 := (cu_mw C o r q th (nI N) mn K)) rfl
    refine cu_callI (va_runV (As := [.int 8]) (rest := []) ⟨hx, hb, hml, hown, hts⟩ ((m_X2_all l D C o r q th N hN mn K 8 (by decide)) H0.size) (cwV 1 hts gX2_counted_X2_all rfl rfl rfl (by decide +kernel) ⟨Nat.le_of_ble_eq_true rfl, Nat.le_of_ble_eq_true rfl⟩) (cu_preV (ci := 2) sp hG hP hD rfl rfl) rfl rfl hl.1 rfl (lv_room (Nat.le_of_ble_eq_true rfl)) dX2_counted_79 ⟨Nat.le_of_ble_eq_true rfl, Nat.le_of_ble_eq_true rfl⟩) sp hP hD hS hA (fun H locs hP hD hS => ?_)
    have hP : va_P D vwCl (cu_mw C o r q th (nI N) mn K) H := hP
    have hD : va_D A (cu_mw C o r q th (nI N) mn K) := hD
    exact fin _ _ _ _ _ rfl (by rfl) hP hS dX2_counted_82
  refine lv_tableOut (tgt := 83) hx hb dX2_counted_3 (by have q_0 := cu_ne s_0 0 (by decide); have q_1 := cu_ne s_1 1 (by decide); have q_2 := cu_ne s_2 2 (by decide); have q_3 := cu_ne s_3 3 (by decide); have q_4 := cu_ne s_4 4 (by decide); have q_5 := cu_ne s_5 5 (by decide); omega) (by decide) ?_
  refine lv_iconst (v := 0) hx hb dX2_counted_83 (by decide) ?_
  refine lv_istore_n (lv' := [(3, .int 0), (2, .int 0), (0, .ref o), (1, .int v1)]) hx hb dX2_counted_84 rfl hl (by decide) rfl (fun ls hl => ?_)
  have h67 := k_lt6c hw hv1 s_0 s_1 s_2 s_3 s_4 s_5
  have loop : ∀ (j : Nat), ∀ (i : Nat) (x2 : Int32), i + j = N → x2 = k_sum (fun c => if v1 = 7 then k_abs (k_off (K c) mn) else if k_off (K c) mn = 0 then 1 else 0) i → ∀ (H : Heap) (locs : List Loc) (ls : Array Slot), va_P D vwCl (cu_mw C o r q th (nI N) mn K) H → va_D A (cu_mw C o r q th (nI N) mn K) → va_S A H0 H locs → lv_has ls 4 [(0, .ref o), (1, .int v1), (2, .int x2), (3, .int (nI i))] → W p l e { frames := 2, cells := 0, slots := 0, locals := 45 } s m args below meth c H locs 0 0 Z (F0 m 85 ls []) := by
    intro j
    induction j with
    | zero =>
      intro i x2 hj hx2 H locs ls hP hD hS hl
      have eN : i = N := by omega
      refine lv_iload_n hx hb dX2_counted_85 rfl (lv_at hl 3 rfl) ?_
      refine lv_aload_n hx hb dX2_counted_86 rfl (lv_at hl 0 rfl) ?_
      refine va_get (D := D) (ci := 2) (v := .int (nI N)) (C := RX2) (T := TX2) (N := 4) hx hb hts hiX2 hown hK hP 0 rfl rfl 1 (by decide) (hts (.fieldLink RX2 20 "CuckooShopModel" "clocks" "I") (by decide +kernel)) (fun _ h9 => h9) rfl dX2_counted_87 ?_
      refine lv_icmp_ge (tgt := 132) hx hb dX2_counted_90 (by decide) (fun c_90 => ?_) (fun c_90 => absurd (nI_le (a := N) (by omega) (by omega)) c_90)
      refine lv_iload_n hx hb dX2_counted_132 rfl (lv_at hl 2 rfl) ?_
      exact fin _ _ _ _ _ rfl (by rw [hx2, eN]; exact k_tally_r h67) hP hS dX2_counted_133
    | succ j ih =>
      intro i x2 hj hx2 H locs ls hP hD hS hl
      have hi : i < 10 := by omega
      refine lv_iload_n hx hb dX2_counted_85 rfl (lv_at hl 3 rfl) ?_
      refine lv_aload_n hx hb dX2_counted_86 rfl (lv_at hl 0 rfl) ?_
      refine va_get (D := D) (ci := 2) (v := .int (nI N)) (C := RX2) (T := TX2) (N := 4) hx hb hts hiX2 hown hK hP 0 rfl rfl 1 (by decide) (hts (.fieldLink RX2 20 "CuckooShopModel" "clocks" "I") (by decide +kernel)) (fun _ h9 => h9) rfl dX2_counted_87 ?_
      refine lv_icmp_ge (tgt := 132) hx hb dX2_counted_90 (by decide) (fun c_90 => absurd c_90 (nI_ge (b := N) (by omega) (by omega))) (fun c_90 => ?_)
      refine lv_iload_n hx hb dX2_counted_93 rfl (lv_at hl 2 rfl) ?_
      refine lv_iload_n hx hb dX2_counted_94 rfl (lv_at hl 1 rfl) ?_
      refine lv_bipush (v := 7) hx hb dX2_counted_95 (by decide) ?_
      refine lv_icmp_ne (tgt := 111) hx hb dX2_counted_97 (by decide) (fun c_97 => ?_) (fun c_97 => ?_)
      · refine lv_aload_n hx hb dX2_counted_111 rfl (lv_at hl 0 rfl) ?_
        refine lv_iload_n hx hb dX2_counted_112 rfl (lv_at hl 3 rfl) ?_
        have sp := cu_sp.all (W0 := (cu_mw C o r q th (nI N) mn K)) (W1 := (cu_mw C o r q th (nI N) mn K)) rfl
        refine cu_callI (va_runV (As := [.int (nI i)]) (rest := [.int x2]) ⟨hx, hb, hml, hown, hts⟩ ((m_X2_offBy l D C o r q th N hN mn K i hi (K i) rfl  (hok i (by omega)).c hm) H.size) (cwV 1 hts gX2_counted_X2_offBy rfl rfl rfl (by decide +kernel) ⟨Nat.le_of_ble_eq_true rfl, Nat.le_of_ble_eq_true rfl⟩) (cu_preV (ci := 2) sp hG hP hD rfl rfl) rfl rfl hl.1 rfl (lv_room (Nat.le_of_ble_eq_true rfl)) dX2_counted_113 ⟨Nat.le_of_ble_eq_true rfl, Nat.le_of_ble_eq_true rfl⟩) sp hP hD hS hA (fun H locs hP hD hS => ?_)
        have hP : va_P D vwCl (cu_mw C o r q th (nI N) mn K) H := hP
        have hD : va_D A (cu_mw C o r q th (nI N) mn K) := hD
        refine lv_if_ne (tgt := 123) hx hb dX2_counted_116 (by decide) (fun c_116 => ?_) (fun c_116 => ?_)
        · refine lv_iconst (v := 0) hx hb dX2_counted_123 (by decide) ?_
          refine lv_iadd hx hb dX2_counted_124 ?_
          refine lv_istore_n (lv' := [(2, .int (x2 + 0)), (0, .ref o), (1, .int v1), (3, .int (nI i))]) hx hb dX2_counted_125 rfl hl (by decide) rfl (fun ls hl => ?_)
          refine lv_iinc (v := (nI (i + 1))) (lv' := [(3, .int (nI (i + 1))), (2, .int (x2 + 0)), (0, .ref o), (1, .int v1)]) hx hb dX2_counted_126 hl (k := 3) rfl (nI_1 i) (by decide) rfl (fun ls hl => ?_)
          refine lv_goto (tgt := 85) hx hb dX2_counted_129 (by decide) ?_
          exact ih (i + 1) _ (by omega) (by rw [hx2]; show _ = k_sum (fun c => if v1 = 7 then k_abs (k_off (K c) mn) else if k_off (K c) mn = 0 then 1 else 0) i + (fun c => if v1 = 7 then k_abs (k_off (K c) mn) else if k_off (K c) mn = 0 then 1 else 0) i; simp only [if_neg c_97, if_neg c_116]) _ _ _ hP hD hS (lv_sub hl [2, 3, 1, 0] rfl)
        · refine lv_iconst (v := 1) hx hb dX2_counted_119 (by decide) ?_
          refine lv_goto (tgt := 124) hx hb dX2_counted_120 (by decide) ?_
          refine lv_iadd hx hb dX2_counted_124 ?_
          refine lv_istore_n (lv' := [(2, .int (x2 + 1)), (0, .ref o), (1, .int v1), (3, .int (nI i))]) hx hb dX2_counted_125 rfl hl (by decide) rfl (fun ls hl => ?_)
          refine lv_iinc (v := (nI (i + 1))) (lv' := [(3, .int (nI (i + 1))), (2, .int (x2 + 1)), (0, .ref o), (1, .int v1)]) hx hb dX2_counted_126 hl (k := 3) rfl (nI_1 i) (by decide) rfl (fun ls hl => ?_)
          refine lv_goto (tgt := 85) hx hb dX2_counted_129 (by decide) ?_
          exact ih (i + 1) _ (by omega) (by rw [hx2]; show _ = k_sum (fun c => if v1 = 7 then k_abs (k_off (K c) mn) else if k_off (K c) mn = 0 then 1 else 0) i + (fun c => if v1 = 7 then k_abs (k_off (K c) mn) else if k_off (K c) mn = 0 then 1 else 0) i; simp only [if_neg c_97, if_pos c_116]) _ _ _ hP hD hS (lv_sub hl [2, 3, 1, 0] rfl)
      · refine lv_aload_n hx hb dX2_counted_100 rfl (lv_at hl 0 rfl) ?_
        refine lv_iload_n hx hb dX2_counted_101 rfl (lv_at hl 3 rfl) ?_
        have sp := cu_sp.all (W0 := (cu_mw C o r q th (nI N) mn K)) (W1 := (cu_mw C o r q th (nI N) mn K)) rfl
        refine cu_callI (va_runV (As := [.int (nI i)]) (rest := [.int x2]) ⟨hx, hb, hml, hown, hts⟩ ((m_X2_offBy l D C o r q th N hN mn K i hi (K i) rfl  (hok i (by omega)).c hm) H.size) (cwV 1 hts gX2_counted_X2_offBy rfl rfl rfl (by decide +kernel) ⟨Nat.le_of_ble_eq_true rfl, Nat.le_of_ble_eq_true rfl⟩) (cu_preV (ci := 2) sp hG hP hD rfl rfl) rfl rfl hl.1 rfl (lv_room (Nat.le_of_ble_eq_true rfl)) dX2_counted_102 ⟨Nat.le_of_ble_eq_true rfl, Nat.le_of_ble_eq_true rfl⟩) sp hP hD hS hA (fun H locs hP hD hS => ?_)
        have hP : va_P D vwCl (cu_mw C o r q th (nI N) mn K) H := hP
        have hD : va_D A (cu_mw C o r q th (nI N) mn K) := hD
        refine va_mabs hx hb (hml.trans hl.1.symm) hown (hts (.methodLink RX2 67 Lib.Math.abs.name) (by decide +kernel)) (hts (.static Lib.Math.abs.name) (by decide +kernel)) (hts (.initialized "java/lang/Math") (by decide +kernel)) (hts (.code Lib.Math.abs.name Lib.Math.abs.code 1 (some .int)) (by decide +kernel)) (Nat.le_of_ble_eq_true rfl) (Nat.le_of_ble_eq_true rfl) (Nat.zero_le _) (Nat.zero_le _) dX2_counted_105 ?_
        refine lv_goto (tgt := 124) hx hb dX2_counted_108 (by decide) ?_
        refine lv_iadd hx hb dX2_counted_124 ?_
        refine lv_istore_n (lv' := [(2, .int (x2 + (if 0 ≤ (k_off (K i) mn) then (k_off (K i) mn) else 0 - (k_off (K i) mn)))), (0, .ref o), (1, .int v1), (3, .int (nI i))]) hx hb dX2_counted_125 rfl hl (by decide) rfl (fun ls hl => ?_)
        refine lv_iinc (v := (nI (i + 1))) (lv' := [(3, .int (nI (i + 1))), (2, .int (x2 + (if 0 ≤ (k_off (K i) mn) then (k_off (K i) mn) else 0 - (k_off (K i) mn)))), (0, .ref o), (1, .int v1)]) hx hb dX2_counted_126 hl (k := 3) rfl (nI_1 i) (by decide) rfl (fun ls hl => ?_)
        refine lv_goto (tgt := 85) hx hb dX2_counted_129 (by decide) ?_
        exact ih (i + 1) _ (by omega) (by rw [hx2]; show _ = k_sum (fun c => if v1 = 7 then k_abs (k_off (K c) mn) else if k_off (K c) mn = 0 then 1 else 0) i + (fun c => if v1 = 7 then k_abs (k_off (K c) mn) else if k_off (K c) mn = 0 then 1 else 0) i; simp only [if_pos c_97]; rfl) _ _ _ hP hD hS (lv_sub hl [2, 3, 1, 0] rfl)
  exact loop N 0 0 (by omega) rfl _ _ _ hP hD hS (lv_sub hl [2, 3, 1, 0] rfl)

set_option maxHeartbeats 4000000 in
set_option maxRecDepth 100000 in
theorem m_X2_call (l : Launch) (D : va_G) (C : Nat → ClassId) (o r q : Nat) (th : Int32) (N : Nat) (hN : N ≤ 10) (mn : Int32) (K : Nat → Nat → Int32) (i : Nat) (hi : i < 10) (Y : Nat → Int32) (hY : K i = Y) (hok : k_okc Y) (K1 : Nat → Nat → Int32) (hK9 : va_up K i (k_call Y) = K1) : cu_V l D C yX2_call wsX2_call { frames := 2, cells := 0, slots := 0, locals := 45 } [.ref o, .int (nI i)] (cu_mw C o r q th (nI N) mn K) (cu_mw C o r q th (nI N) mn K1) 0 0 := by
  refine cu_openV (cc := cX2_call) (maxL := 5) (own := RX2) (by decide) rfl rfl (Nat.le_of_ble_eq_true rfl) ?_
  intro p e s m args below meth c A Z H0 ls e0 hx hb hml hts hown hnm hG hP hD hS hA hl fin
  have hK := hG.1
  have hl : lv_has ls 5 [(0, .ref o), (1, .int (nI i))] := hl
  subst hY
  refine lv_aload_n hx hb dX2_call_0 rfl (lv_at hl 0 rfl) ?_
  refine lv_iload_n hx hb dX2_call_1 rfl (lv_at hl 1 rfl) ?_
  refine lv_iconst (v := 0) hx hb dX2_call_2 (by decide) ?_
  have sp := cu_sp.all (W0 := (cu_mw C o r q th (nI N) mn K)) (W1 := (cu_mw C o r q th (nI N) mn K)) rfl
  refine cu_callI (va_runV (As := [.int (nI i), .int 0]) (rest := []) ⟨hx, hb, hml, hown, hts⟩ ((m_X2_sh l D C o r q th N hN mn K i 0 hi (by decide) (K i 0) rfl) H0.size) (cwV 2 hts gX2_call_X2_sh rfl rfl rfl (by decide +kernel) ⟨Nat.le_of_ble_eq_true rfl, Nat.le_of_ble_eq_true rfl⟩) (cu_preV (ci := 2) sp hG hP hD rfl rfl) rfl rfl hl.1 rfl (lv_room (Nat.le_of_ble_eq_true rfl)) dX2_call_3 ⟨Nat.le_of_ble_eq_true rfl, Nat.le_of_ble_eq_true rfl⟩) sp hP hD hS hA (fun H locs hP hD hS => ?_)
  have hP : va_P D vwCl (cu_mw C o r q th (nI N) mn K) H := hP
  have hD : va_D A (cu_mw C o r q th (nI N) mn K) := hD
  refine lv_istore_n (lv' := [(2, .int (K i 0)), (0, .ref o), (1, .int (nI i))]) hx hb dX2_call_6 rfl hl (by decide) rfl (fun ls hl => ?_)
  refine lv_iload_n hx hb dX2_call_7 rfl (lv_at hl 0 rfl) ?_
  refine lv_bipush (v := 30) hx hb dX2_call_8 (by decide) ?_
  refine lv_irem hx hb dX2_call_10 (by decide) ?_
  refine lv_if_ne (tgt := 22) hx hb dX2_call_11 (by decide) (fun c_11 => ?_) (fun c_11 => ?_)
  · exact fin _ _ _ _ (by rw [← hK9, k_call_1 hok c_11, va_up_eta]; exact hP) hS dX2_call_22
  · refine lv_aload_n hx hb dX2_call_14 rfl (lv_at hl 1 rfl) ?_
    refine lv_iload_n hx hb dX2_call_15 rfl (lv_at hl 2 rfl) ?_
    have sp := cu_sp.all (W0 := (cu_mw C o r q th (nI N) mn K)) (W1 := (cu_mw C o r q th (nI N) mn K)) rfl
    refine cu_callI (va_runV (As := [.int (nI i)]) (rest := []) ⟨hx, hb, hml, hown, hts⟩ ((m_X2_isShut l D C o r q th N hN mn K i hi (K i) rfl  hok) H.size) (cwV 1 hts gX2_call_X2_isShut rfl rfl rfl (by decide +kernel) ⟨Nat.le_of_ble_eq_true rfl, Nat.le_of_ble_eq_true rfl⟩) (cu_preV (ci := 2) sp hG hP hD rfl rfl) rfl rfl hl.1 rfl (lv_room (Nat.le_of_ble_eq_true rfl)) dX2_call_16 ⟨Nat.le_of_ble_eq_true rfl, Nat.le_of_ble_eq_true rfl⟩) sp hP hD hS hA (fun H locs hP hD hS => ?_)
    have hP : va_P D vwCl (cu_mw C o r q th (nI N) mn K) H := hP
    have hD : va_D A (cu_mw C o r q th (nI N) mn K) := hD
    refine lv_if_eq (tgt := 23) hx hb dX2_call_19 (by decide) (fun c_19 => ?_) (fun c_19 => ?_)
    · refine lv_iload_n hx hb dX2_call_23 rfl (lv_at hl 0 rfl) ?_
      refine lv_if_ne (tgt := 32) hx hb dX2_call_24 (by decide) (fun c_24 => ?_) (fun c_24 => ?_)
      · refine lv_iload_n hx hb dX2_call_32 rfl (lv_at hl 0 rfl) ?_
        refine lv_bipush (v := 60) hx hb dX2_call_33 (by decide) ?_
        refine lv_irem hx hb dX2_call_35 (by decide) ?_
        refine lv_if_ne (tgt := 46) hx hb dX2_call_36 (by decide) (fun c_36 => ?_) (fun c_36 => ?_)
        · refine lv_iconst (v := 1) hx hb dX2_call_46 (by decide) ?_
          refine lv_istore_n (lv' := [(3, .int 1), (2, .int (K i 0)), (0, .ref o), (1, .int (nI i))]) hx hb dX2_call_47 rfl hl (by decide) rfl (fun ls hl => ?_)
          refine lv_iload_n hx hb dX2_call_48 rfl (lv_at hl 0 rfl) ?_
          refine lv_aload_n hx hb dX2_call_49 rfl (lv_at hl 2 rfl) ?_
          refine lv_iload_n hx hb dX2_call_50 rfl (lv_at hl 3 rfl) ?_
          refine lv_iconst (v := 4) hx hb dX2_call_51 (by decide) ?_
          have sp := cu_sp.all (W0 := (cu_mw C o r q th (nI N) mn K)) (W1 := (cu_mw C o r q th (nI N) mn K)) rfl
          refine cu_callI (va_runV (As := [.int (nI i), .int 4]) (rest := [.int 1]) ⟨hx, hb, hml, hown, hts⟩ ((m_X2_sh l D C o r q th N hN mn K i 4 hi (by decide) (K i 4) rfl) H.size) (cwV 2 hts gX2_call_X2_sh rfl rfl rfl (by decide +kernel) ⟨Nat.le_of_ble_eq_true rfl, Nat.le_of_ble_eq_true rfl⟩) (cu_preV (ci := 2) sp hG hP hD rfl rfl) rfl rfl hl.1 rfl (lv_room (Nat.le_of_ble_eq_true rfl)) dX2_call_52 ⟨Nat.le_of_ble_eq_true rfl, Nat.le_of_ble_eq_true rfl⟩) sp hP hD hS hA (fun H locs hP hD hS => ?_)
          have hP : va_P D vwCl (cu_mw C o r q th (nI N) mn K) H := hP
          have hD : va_D A (cu_mw C o r q th (nI N) mn K) := hD
          refine va_mmin hx hb (hml.trans hl.1.symm) hown (hts (.methodLink RX2 75 Lib.Math.min.name) (by decide +kernel)) (hts (.static Lib.Math.min.name) (by decide +kernel)) (hts (.initialized "java/lang/Math") (by decide +kernel)) (hts (.code Lib.Math.min.name Lib.Math.min.code 2 (some .int)) (by decide +kernel)) (Nat.le_of_ble_eq_true rfl) (Nat.le_of_ble_eq_true rfl) (Nat.zero_le _) (Nat.zero_le _) dX2_call_55 ?_
          refine lv_istore (lv' := [(4, .int (if (K i 4) < 1 then (K i 4) else 1)), (3, .int 1), (2, .int (K i 0)), (0, .ref o), (1, .int (nI i))]) hx hb dX2_call_58 hl (by decide) rfl (fun ls hl => ?_)
          refine lv_aload_n hx hb dX2_call_60 rfl (lv_at hl 3 rfl) ?_
          refine lv_iload_n hx hb dX2_call_61 rfl (lv_at hl 4 rfl) ?_
          refine lv_iconst (v := 4) hx hb dX2_call_62 (by decide) ?_
          refine lv_iload hx hb dX2_call_63 (lv_at hl 0 rfl) ?_
          refine lv_ineg hx hb dX2_call_65 ?_
          have sp := cu_sp.all (W0 := (cu_mw C o r q th (nI N) mn K)) (W1 := (cu_mw C o r q th (nI N) mn (va_up K i (upd (K i) 4 ((K i 4) + (-(if (K i 4) < 1 then (K i 4) else 1))))))) rfl
          refine cu_callV (va_runV (As := [.int (nI i), .int 4, .int (-(if (K i 4) < 1 then (K i 4) else 1))]) (rest := []) ⟨hx, hb, hml, hown, hts⟩ ((m_X2_add l D C o r q th N hN mn K i 4 hi (by decide) (-(if (K i 4) < 1 then (K i 4) else 1)) (K i 4) rfl (va_up K i (upd (K i) 4 ((K i 4) + (-(if (K i 4) < 1 then (K i 4) else 1))))) rfl) H.size) (cwV 3 hts gX2_call_X2_add rfl rfl rfl (by decide +kernel) ⟨Nat.le_of_ble_eq_true rfl, Nat.le_of_ble_eq_true rfl⟩) (cu_preV (ci := 2) sp hG hP hD rfl rfl) rfl rfl hl.1 rfl (lv_room (Nat.le_of_ble_eq_true rfl)) dX2_call_66 ⟨Nat.le_of_ble_eq_true rfl, Nat.le_of_ble_eq_true rfl⟩) sp hP hD hS hA (fun H locs hP hD hS => ?_)
          have hP : va_P D vwCl (cu_mw C o r q th (nI N) mn (va_up K i (upd (K i) 4 ((K i 4) + (-(if (K i 4) < 1 then (K i 4) else 1)))))) H := hP
          have hD : va_D A (cu_mw C o r q th (nI N) mn (va_up K i (upd (K i) 4 ((K i 4) + (-(if (K i 4) < 1 then (K i 4) else 1)))))) := hD
          refine lv_aload_n hx hb dX2_call_69 rfl (lv_at hl 3 rfl) ?_
          refine lv_iload_n hx hb dX2_call_70 rfl (lv_at hl 4 rfl) ?_
          refine lv_bipush (v := 6) hx hb dX2_call_71 (by decide) ?_
          refine lv_iload hx hb dX2_call_73 (lv_at hl 0 rfl) ?_
          have sp := cu_sp.all (W0 := (cu_mw C o r q th (nI N) mn (va_up K i (upd (K i) 4 ((K i 4) + (-(if (K i 4) < 1 then (K i 4) else 1))))))) (W1 := (cu_mw C o r q th (nI N) mn (va_up K i (upd (upd (K i) 4 ((K i 4) + (-(if (K i 4) < 1 then (K i 4) else 1)))) 6 (((K i) 6) + (if (K i 4) < 1 then (K i 4) else 1)))))) rfl
          refine cu_callV (va_runV (As := [.int (nI i), .int 6, .int (if (K i 4) < 1 then (K i 4) else 1)]) (rest := []) ⟨hx, hb, hml, hown, hts⟩ ((m_X2_add l D C o r q th N hN mn (va_up K i (upd (K i) 4 ((K i 4) + (-(if (K i 4) < 1 then (K i 4) else 1))))) i 6 hi (by decide) (if (K i 4) < 1 then (K i 4) else 1) ((K i) 6) ((congrFun (va_up_self K i (upd (K i) 4 ((K i 4) + (-(if (K i 4) < 1 then (K i 4) else 1))))) 6).trans rfl) (va_up K i (upd (upd (K i) 4 ((K i 4) + (-(if (K i 4) < 1 then (K i 4) else 1)))) 6 (((K i) 6) + (if (K i 4) < 1 then (K i 4) else 1)))) (by rw [va_up_self, bx_uu])) H.size) (cwV 3 hts gX2_call_X2_add rfl rfl rfl (by decide +kernel) ⟨Nat.le_of_ble_eq_true rfl, Nat.le_of_ble_eq_true rfl⟩) (cu_preV (ci := 2) sp hG hP hD rfl rfl) rfl rfl hl.1 rfl (lv_room (Nat.le_of_ble_eq_true rfl)) dX2_call_75 ⟨Nat.le_of_ble_eq_true rfl, Nat.le_of_ble_eq_true rfl⟩) sp hP hD hS hA (fun H locs hP hD hS => ?_)
          have hP : va_P D vwCl (cu_mw C o r q th (nI N) mn (va_up K i (upd (upd (K i) 4 ((K i 4) + (-(if (K i 4) < 1 then (K i 4) else 1)))) 6 (((K i) 6) + (if (K i 4) < 1 then (K i 4) else 1))))) H := hP
          have hD : va_D A (cu_mw C o r q th (nI N) mn (va_up K i (upd (upd (K i) 4 ((K i 4) + (-(if (K i 4) < 1 then (K i 4) else 1)))) 6 (((K i) 6) + (if (K i 4) < 1 then (K i 4) else 1))))) := hD
          refine lv_aload_n hx hb dX2_call_78 rfl (lv_at hl 3 rfl) ?_
          refine lv_iload_n hx hb dX2_call_79 rfl (lv_at hl 4 rfl) ?_
          refine lv_bipush (v := 8) hx hb dX2_call_80 (by decide) ?_
          refine lv_iload hx hb dX2_call_82 (lv_at hl 0 rfl) ?_
          have sp := cu_sp.all (W0 := (cu_mw C o r q th (nI N) mn (va_up K i (upd (upd (K i) 4 ((K i 4) + (-(if (K i 4) < 1 then (K i 4) else 1)))) 6 (((K i) 6) + (if (K i 4) < 1 then (K i 4) else 1)))))) (W1 := (cu_mw C o r q th (nI N) mn (va_up K i (upd (upd (upd (K i) 4 ((K i 4) + (-(if (K i 4) < 1 then (K i 4) else 1)))) 6 (((K i) 6) + (if (K i 4) < 1 then (K i 4) else 1))) 8 (((K i) 8) + (if (K i 4) < 1 then (K i 4) else 1)))))) rfl
          refine cu_callV (va_runV (As := [.int (nI i), .int 8, .int (if (K i 4) < 1 then (K i 4) else 1)]) (rest := []) ⟨hx, hb, hml, hown, hts⟩ ((m_X2_add l D C o r q th N hN mn (va_up K i (upd (upd (K i) 4 ((K i 4) + (-(if (K i 4) < 1 then (K i 4) else 1)))) 6 (((K i) 6) + (if (K i 4) < 1 then (K i 4) else 1)))) i 8 hi (by decide) (if (K i 4) < 1 then (K i 4) else 1) ((K i) 8) ((congrFun (va_up_self K i (upd (upd (K i) 4 ((K i 4) + (-(if (K i 4) < 1 then (K i 4) else 1)))) 6 (((K i) 6) + (if (K i 4) < 1 then (K i 4) else 1)))) 8).trans rfl) (va_up K i (upd (upd (upd (K i) 4 ((K i 4) + (-(if (K i 4) < 1 then (K i 4) else 1)))) 6 (((K i) 6) + (if (K i 4) < 1 then (K i 4) else 1))) 8 (((K i) 8) + (if (K i 4) < 1 then (K i 4) else 1)))) (by rw [va_up_self, bx_uu])) H.size) (cwV 3 hts gX2_call_X2_add rfl rfl rfl (by decide +kernel) ⟨Nat.le_of_ble_eq_true rfl, Nat.le_of_ble_eq_true rfl⟩) (cu_preV (ci := 2) sp hG hP hD rfl rfl) rfl rfl hl.1 rfl (lv_room (Nat.le_of_ble_eq_true rfl)) dX2_call_84 ⟨Nat.le_of_ble_eq_true rfl, Nat.le_of_ble_eq_true rfl⟩) sp hP hD hS hA (fun H locs hP hD hS => ?_)
          have hP : va_P D vwCl (cu_mw C o r q th (nI N) mn (va_up K i (upd (upd (upd (K i) 4 ((K i 4) + (-(if (K i 4) < 1 then (K i 4) else 1)))) 6 (((K i) 6) + (if (K i 4) < 1 then (K i 4) else 1))) 8 (((K i) 8) + (if (K i 4) < 1 then (K i 4) else 1))))) H := hP
          have hD : va_D A (cu_mw C o r q th (nI N) mn (va_up K i (upd (upd (upd (K i) 4 ((K i 4) + (-(if (K i 4) < 1 then (K i 4) else 1)))) 6 (((K i) 6) + (if (K i 4) < 1 then (K i 4) else 1))) 8 (((K i) 8) + (if (K i 4) < 1 then (K i 4) else 1))))) := hD
          refine lv_aload_n hx hb dX2_call_87 rfl (lv_at hl 3 rfl) ?_
          refine lv_iload_n hx hb dX2_call_88 rfl (lv_at hl 4 rfl) ?_
          refine lv_bipush (v := 7) hx hb dX2_call_89 (by decide) ?_
          refine lv_iload_n hx hb dX2_call_91 rfl (lv_at hl 1 rfl) ?_
          refine lv_iload hx hb dX2_call_92 (lv_at hl 0 rfl) ?_
          refine lv_isub hx hb dX2_call_94 ?_
          have sp := cu_sp.all (W0 := (cu_mw C o r q th (nI N) mn (va_up K i (upd (upd (upd (K i) 4 ((K i 4) + (-(if (K i 4) < 1 then (K i 4) else 1)))) 6 (((K i) 6) + (if (K i 4) < 1 then (K i 4) else 1))) 8 (((K i) 8) + (if (K i 4) < 1 then (K i 4) else 1)))))) (W1 := (cu_mw C o r q th (nI N) mn (va_up K i (upd (upd (upd (upd (K i) 4 ((K i 4) + (-(if (K i 4) < 1 then (K i 4) else 1)))) 6 (((K i) 6) + (if (K i 4) < 1 then (K i 4) else 1))) 8 (((K i) 8) + (if (K i 4) < 1 then (K i 4) else 1))) 7 (((K i) 7) + (1 - (if (K i 4) < 1 then (K i 4) else 1))))))) rfl
          refine cu_callV (va_runV (As := [.int (nI i), .int 7, .int (1 - (if (K i 4) < 1 then (K i 4) else 1))]) (rest := []) ⟨hx, hb, hml, hown, hts⟩ ((m_X2_add l D C o r q th N hN mn (va_up K i (upd (upd (upd (K i) 4 ((K i 4) + (-(if (K i 4) < 1 then (K i 4) else 1)))) 6 (((K i) 6) + (if (K i 4) < 1 then (K i 4) else 1))) 8 (((K i) 8) + (if (K i 4) < 1 then (K i 4) else 1)))) i 7 hi (by decide) (1 - (if (K i 4) < 1 then (K i 4) else 1)) ((K i) 7) ((congrFun (va_up_self K i (upd (upd (upd (K i) 4 ((K i 4) + (-(if (K i 4) < 1 then (K i 4) else 1)))) 6 (((K i) 6) + (if (K i 4) < 1 then (K i 4) else 1))) 8 (((K i) 8) + (if (K i 4) < 1 then (K i 4) else 1)))) 7).trans rfl) (va_up K i (upd (upd (upd (upd (K i) 4 ((K i 4) + (-(if (K i 4) < 1 then (K i 4) else 1)))) 6 (((K i) 6) + (if (K i 4) < 1 then (K i 4) else 1))) 8 (((K i) 8) + (if (K i 4) < 1 then (K i 4) else 1))) 7 (((K i) 7) + (1 - (if (K i 4) < 1 then (K i 4) else 1))))) (by rw [va_up_self, bx_uu])) H.size) (cwV 3 hts gX2_call_X2_add rfl rfl rfl (by decide +kernel) ⟨Nat.le_of_ble_eq_true rfl, Nat.le_of_ble_eq_true rfl⟩) (cu_preV (ci := 2) sp hG hP hD rfl rfl) rfl rfl hl.1 rfl (lv_room (Nat.le_of_ble_eq_true rfl)) dX2_call_95 ⟨Nat.le_of_ble_eq_true rfl, Nat.le_of_ble_eq_true rfl⟩) sp hP hD hS hA (fun H locs hP hD hS => ?_)
          have hP : va_P D vwCl (cu_mw C o r q th (nI N) mn (va_up K i (upd (upd (upd (upd (K i) 4 ((K i 4) + (-(if (K i 4) < 1 then (K i 4) else 1)))) 6 (((K i) 6) + (if (K i 4) < 1 then (K i 4) else 1))) 8 (((K i) 8) + (if (K i 4) < 1 then (K i 4) else 1))) 7 (((K i) 7) + (1 - (if (K i 4) < 1 then (K i 4) else 1)))))) H := hP
          have hD : va_D A (cu_mw C o r q th (nI N) mn (va_up K i (upd (upd (upd (upd (K i) 4 ((K i 4) + (-(if (K i 4) < 1 then (K i 4) else 1)))) 6 (((K i) 6) + (if (K i 4) < 1 then (K i 4) else 1))) 8 (((K i) 8) + (if (K i 4) < 1 then (K i 4) else 1))) 7 (((K i) 7) + (1 - (if (K i 4) < 1 then (K i 4) else 1)))))) := hD
          exact fin _ _ _ _ (by rw [← hK9, ← k_call_3 c_19 (w := 1) (by simp only [k_due, if_pos c_11, if_pos c_19, if_neg c_24, if_neg c_36]) rfl]; exact hP) hS dX2_call_98
        · refine lv_iload_n hx hb dX2_call_39 rfl (lv_at hl 0 rfl) ?_
          refine lv_bipush (v := 60) hx hb dX2_call_40 (by decide) ?_
          refine lv_idiv hx hb dX2_call_42 (by decide) ?_
          refine lv_goto (tgt := 47) hx hb dX2_call_43 (by decide) ?_
          refine lv_istore_n (lv' := [(3, .int ((K i 0) / 60)), (2, .int (K i 0)), (0, .ref o), (1, .int (nI i))]) hx hb dX2_call_47 rfl hl (by decide) rfl (fun ls hl => ?_)
          refine lv_iload_n hx hb dX2_call_48 rfl (lv_at hl 0 rfl) ?_
          refine lv_aload_n hx hb dX2_call_49 rfl (lv_at hl 2 rfl) ?_
          refine lv_iload_n hx hb dX2_call_50 rfl (lv_at hl 3 rfl) ?_
          refine lv_iconst (v := 4) hx hb dX2_call_51 (by decide) ?_
          have sp := cu_sp.all (W0 := (cu_mw C o r q th (nI N) mn K)) (W1 := (cu_mw C o r q th (nI N) mn K)) rfl
          refine cu_callI (va_runV (As := [.int (nI i), .int 4]) (rest := [.int ((K i 0) / 60)]) ⟨hx, hb, hml, hown, hts⟩ ((m_X2_sh l D C o r q th N hN mn K i 4 hi (by decide) (K i 4) rfl) H.size) (cwV 2 hts gX2_call_X2_sh rfl rfl rfl (by decide +kernel) ⟨Nat.le_of_ble_eq_true rfl, Nat.le_of_ble_eq_true rfl⟩) (cu_preV (ci := 2) sp hG hP hD rfl rfl) rfl rfl hl.1 rfl (lv_room (Nat.le_of_ble_eq_true rfl)) dX2_call_52 ⟨Nat.le_of_ble_eq_true rfl, Nat.le_of_ble_eq_true rfl⟩) sp hP hD hS hA (fun H locs hP hD hS => ?_)
          have hP : va_P D vwCl (cu_mw C o r q th (nI N) mn K) H := hP
          have hD : va_D A (cu_mw C o r q th (nI N) mn K) := hD
          refine va_mmin hx hb (hml.trans hl.1.symm) hown (hts (.methodLink RX2 75 Lib.Math.min.name) (by decide +kernel)) (hts (.static Lib.Math.min.name) (by decide +kernel)) (hts (.initialized "java/lang/Math") (by decide +kernel)) (hts (.code Lib.Math.min.name Lib.Math.min.code 2 (some .int)) (by decide +kernel)) (Nat.le_of_ble_eq_true rfl) (Nat.le_of_ble_eq_true rfl) (Nat.zero_le _) (Nat.zero_le _) dX2_call_55 ?_
          refine lv_istore (lv' := [(4, .int (if (K i 4) < ((K i 0) / 60) then (K i 4) else ((K i 0) / 60))), (3, .int ((K i 0) / 60)), (2, .int (K i 0)), (0, .ref o), (1, .int (nI i))]) hx hb dX2_call_58 hl (by decide) rfl (fun ls hl => ?_)
          refine lv_aload_n hx hb dX2_call_60 rfl (lv_at hl 3 rfl) ?_
          refine lv_iload_n hx hb dX2_call_61 rfl (lv_at hl 4 rfl) ?_
          refine lv_iconst (v := 4) hx hb dX2_call_62 (by decide) ?_
          refine lv_iload hx hb dX2_call_63 (lv_at hl 0 rfl) ?_
          refine lv_ineg hx hb dX2_call_65 ?_
          have sp := cu_sp.all (W0 := (cu_mw C o r q th (nI N) mn K)) (W1 := (cu_mw C o r q th (nI N) mn (va_up K i (upd (K i) 4 ((K i 4) + (-(if (K i 4) < ((K i 0) / 60) then (K i 4) else ((K i 0) / 60)))))))) rfl
          refine cu_callV (va_runV (As := [.int (nI i), .int 4, .int (-(if (K i 4) < ((K i 0) / 60) then (K i 4) else ((K i 0) / 60)))]) (rest := []) ⟨hx, hb, hml, hown, hts⟩ ((m_X2_add l D C o r q th N hN mn K i 4 hi (by decide) (-(if (K i 4) < ((K i 0) / 60) then (K i 4) else ((K i 0) / 60))) (K i 4) rfl (va_up K i (upd (K i) 4 ((K i 4) + (-(if (K i 4) < ((K i 0) / 60) then (K i 4) else ((K i 0) / 60)))))) rfl) H.size) (cwV 3 hts gX2_call_X2_add rfl rfl rfl (by decide +kernel) ⟨Nat.le_of_ble_eq_true rfl, Nat.le_of_ble_eq_true rfl⟩) (cu_preV (ci := 2) sp hG hP hD rfl rfl) rfl rfl hl.1 rfl (lv_room (Nat.le_of_ble_eq_true rfl)) dX2_call_66 ⟨Nat.le_of_ble_eq_true rfl, Nat.le_of_ble_eq_true rfl⟩) sp hP hD hS hA (fun H locs hP hD hS => ?_)
          have hP : va_P D vwCl (cu_mw C o r q th (nI N) mn (va_up K i (upd (K i) 4 ((K i 4) + (-(if (K i 4) < ((K i 0) / 60) then (K i 4) else ((K i 0) / 60))))))) H := hP
          have hD : va_D A (cu_mw C o r q th (nI N) mn (va_up K i (upd (K i) 4 ((K i 4) + (-(if (K i 4) < ((K i 0) / 60) then (K i 4) else ((K i 0) / 60))))))) := hD
          refine lv_aload_n hx hb dX2_call_69 rfl (lv_at hl 3 rfl) ?_
          refine lv_iload_n hx hb dX2_call_70 rfl (lv_at hl 4 rfl) ?_
          refine lv_bipush (v := 6) hx hb dX2_call_71 (by decide) ?_
          refine lv_iload hx hb dX2_call_73 (lv_at hl 0 rfl) ?_
          have sp := cu_sp.all (W0 := (cu_mw C o r q th (nI N) mn (va_up K i (upd (K i) 4 ((K i 4) + (-(if (K i 4) < ((K i 0) / 60) then (K i 4) else ((K i 0) / 60)))))))) (W1 := (cu_mw C o r q th (nI N) mn (va_up K i (upd (upd (K i) 4 ((K i 4) + (-(if (K i 4) < ((K i 0) / 60) then (K i 4) else ((K i 0) / 60))))) 6 (((K i) 6) + (if (K i 4) < ((K i 0) / 60) then (K i 4) else ((K i 0) / 60))))))) rfl
          refine cu_callV (va_runV (As := [.int (nI i), .int 6, .int (if (K i 4) < ((K i 0) / 60) then (K i 4) else ((K i 0) / 60))]) (rest := []) ⟨hx, hb, hml, hown, hts⟩ ((m_X2_add l D C o r q th N hN mn (va_up K i (upd (K i) 4 ((K i 4) + (-(if (K i 4) < ((K i 0) / 60) then (K i 4) else ((K i 0) / 60)))))) i 6 hi (by decide) (if (K i 4) < ((K i 0) / 60) then (K i 4) else ((K i 0) / 60)) ((K i) 6) ((congrFun (va_up_self K i (upd (K i) 4 ((K i 4) + (-(if (K i 4) < ((K i 0) / 60) then (K i 4) else ((K i 0) / 60)))))) 6).trans rfl) (va_up K i (upd (upd (K i) 4 ((K i 4) + (-(if (K i 4) < ((K i 0) / 60) then (K i 4) else ((K i 0) / 60))))) 6 (((K i) 6) + (if (K i 4) < ((K i 0) / 60) then (K i 4) else ((K i 0) / 60))))) (by rw [va_up_self, bx_uu])) H.size) (cwV 3 hts gX2_call_X2_add rfl rfl rfl (by decide +kernel) ⟨Nat.le_of_ble_eq_true rfl, Nat.le_of_ble_eq_true rfl⟩) (cu_preV (ci := 2) sp hG hP hD rfl rfl) rfl rfl hl.1 rfl (lv_room (Nat.le_of_ble_eq_true rfl)) dX2_call_75 ⟨Nat.le_of_ble_eq_true rfl, Nat.le_of_ble_eq_true rfl⟩) sp hP hD hS hA (fun H locs hP hD hS => ?_)
          have hP : va_P D vwCl (cu_mw C o r q th (nI N) mn (va_up K i (upd (upd (K i) 4 ((K i 4) + (-(if (K i 4) < ((K i 0) / 60) then (K i 4) else ((K i 0) / 60))))) 6 (((K i) 6) + (if (K i 4) < ((K i 0) / 60) then (K i 4) else ((K i 0) / 60)))))) H := hP
          have hD : va_D A (cu_mw C o r q th (nI N) mn (va_up K i (upd (upd (K i) 4 ((K i 4) + (-(if (K i 4) < ((K i 0) / 60) then (K i 4) else ((K i 0) / 60))))) 6 (((K i) 6) + (if (K i 4) < ((K i 0) / 60) then (K i 4) else ((K i 0) / 60)))))) := hD
          refine lv_aload_n hx hb dX2_call_78 rfl (lv_at hl 3 rfl) ?_
          refine lv_iload_n hx hb dX2_call_79 rfl (lv_at hl 4 rfl) ?_
          refine lv_bipush (v := 8) hx hb dX2_call_80 (by decide) ?_
          refine lv_iload hx hb dX2_call_82 (lv_at hl 0 rfl) ?_
          have sp := cu_sp.all (W0 := (cu_mw C o r q th (nI N) mn (va_up K i (upd (upd (K i) 4 ((K i 4) + (-(if (K i 4) < ((K i 0) / 60) then (K i 4) else ((K i 0) / 60))))) 6 (((K i) 6) + (if (K i 4) < ((K i 0) / 60) then (K i 4) else ((K i 0) / 60))))))) (W1 := (cu_mw C o r q th (nI N) mn (va_up K i (upd (upd (upd (K i) 4 ((K i 4) + (-(if (K i 4) < ((K i 0) / 60) then (K i 4) else ((K i 0) / 60))))) 6 (((K i) 6) + (if (K i 4) < ((K i 0) / 60) then (K i 4) else ((K i 0) / 60)))) 8 (((K i) 8) + (if (K i 4) < ((K i 0) / 60) then (K i 4) else ((K i 0) / 60))))))) rfl
          refine cu_callV (va_runV (As := [.int (nI i), .int 8, .int (if (K i 4) < ((K i 0) / 60) then (K i 4) else ((K i 0) / 60))]) (rest := []) ⟨hx, hb, hml, hown, hts⟩ ((m_X2_add l D C o r q th N hN mn (va_up K i (upd (upd (K i) 4 ((K i 4) + (-(if (K i 4) < ((K i 0) / 60) then (K i 4) else ((K i 0) / 60))))) 6 (((K i) 6) + (if (K i 4) < ((K i 0) / 60) then (K i 4) else ((K i 0) / 60))))) i 8 hi (by decide) (if (K i 4) < ((K i 0) / 60) then (K i 4) else ((K i 0) / 60)) ((K i) 8) ((congrFun (va_up_self K i (upd (upd (K i) 4 ((K i 4) + (-(if (K i 4) < ((K i 0) / 60) then (K i 4) else ((K i 0) / 60))))) 6 (((K i) 6) + (if (K i 4) < ((K i 0) / 60) then (K i 4) else ((K i 0) / 60))))) 8).trans rfl) (va_up K i (upd (upd (upd (K i) 4 ((K i 4) + (-(if (K i 4) < ((K i 0) / 60) then (K i 4) else ((K i 0) / 60))))) 6 (((K i) 6) + (if (K i 4) < ((K i 0) / 60) then (K i 4) else ((K i 0) / 60)))) 8 (((K i) 8) + (if (K i 4) < ((K i 0) / 60) then (K i 4) else ((K i 0) / 60))))) (by rw [va_up_self, bx_uu])) H.size) (cwV 3 hts gX2_call_X2_add rfl rfl rfl (by decide +kernel) ⟨Nat.le_of_ble_eq_true rfl, Nat.le_of_ble_eq_true rfl⟩) (cu_preV (ci := 2) sp hG hP hD rfl rfl) rfl rfl hl.1 rfl (lv_room (Nat.le_of_ble_eq_true rfl)) dX2_call_84 ⟨Nat.le_of_ble_eq_true rfl, Nat.le_of_ble_eq_true rfl⟩) sp hP hD hS hA (fun H locs hP hD hS => ?_)
          have hP : va_P D vwCl (cu_mw C o r q th (nI N) mn (va_up K i (upd (upd (upd (K i) 4 ((K i 4) + (-(if (K i 4) < ((K i 0) / 60) then (K i 4) else ((K i 0) / 60))))) 6 (((K i) 6) + (if (K i 4) < ((K i 0) / 60) then (K i 4) else ((K i 0) / 60)))) 8 (((K i) 8) + (if (K i 4) < ((K i 0) / 60) then (K i 4) else ((K i 0) / 60)))))) H := hP
          have hD : va_D A (cu_mw C o r q th (nI N) mn (va_up K i (upd (upd (upd (K i) 4 ((K i 4) + (-(if (K i 4) < ((K i 0) / 60) then (K i 4) else ((K i 0) / 60))))) 6 (((K i) 6) + (if (K i 4) < ((K i 0) / 60) then (K i 4) else ((K i 0) / 60)))) 8 (((K i) 8) + (if (K i 4) < ((K i 0) / 60) then (K i 4) else ((K i 0) / 60)))))) := hD
          refine lv_aload_n hx hb dX2_call_87 rfl (lv_at hl 3 rfl) ?_
          refine lv_iload_n hx hb dX2_call_88 rfl (lv_at hl 4 rfl) ?_
          refine lv_bipush (v := 7) hx hb dX2_call_89 (by decide) ?_
          refine lv_iload_n hx hb dX2_call_91 rfl (lv_at hl 1 rfl) ?_
          refine lv_iload hx hb dX2_call_92 (lv_at hl 0 rfl) ?_
          refine lv_isub hx hb dX2_call_94 ?_
          have sp := cu_sp.all (W0 := (cu_mw C o r q th (nI N) mn (va_up K i (upd (upd (upd (K i) 4 ((K i 4) + (-(if (K i 4) < ((K i 0) / 60) then (K i 4) else ((K i 0) / 60))))) 6 (((K i) 6) + (if (K i 4) < ((K i 0) / 60) then (K i 4) else ((K i 0) / 60)))) 8 (((K i) 8) + (if (K i 4) < ((K i 0) / 60) then (K i 4) else ((K i 0) / 60))))))) (W1 := (cu_mw C o r q th (nI N) mn (va_up K i (upd (upd (upd (upd (K i) 4 ((K i 4) + (-(if (K i 4) < ((K i 0) / 60) then (K i 4) else ((K i 0) / 60))))) 6 (((K i) 6) + (if (K i 4) < ((K i 0) / 60) then (K i 4) else ((K i 0) / 60)))) 8 (((K i) 8) + (if (K i 4) < ((K i 0) / 60) then (K i 4) else ((K i 0) / 60)))) 7 (((K i) 7) + (((K i 0) / 60) - (if (K i 4) < ((K i 0) / 60) then (K i 4) else ((K i 0) / 60)))))))) rfl
          refine cu_callV (va_runV (As := [.int (nI i), .int 7, .int (((K i 0) / 60) - (if (K i 4) < ((K i 0) / 60) then (K i 4) else ((K i 0) / 60)))]) (rest := []) ⟨hx, hb, hml, hown, hts⟩ ((m_X2_add l D C o r q th N hN mn (va_up K i (upd (upd (upd (K i) 4 ((K i 4) + (-(if (K i 4) < ((K i 0) / 60) then (K i 4) else ((K i 0) / 60))))) 6 (((K i) 6) + (if (K i 4) < ((K i 0) / 60) then (K i 4) else ((K i 0) / 60)))) 8 (((K i) 8) + (if (K i 4) < ((K i 0) / 60) then (K i 4) else ((K i 0) / 60))))) i 7 hi (by decide) (((K i 0) / 60) - (if (K i 4) < ((K i 0) / 60) then (K i 4) else ((K i 0) / 60))) ((K i) 7) ((congrFun (va_up_self K i (upd (upd (upd (K i) 4 ((K i 4) + (-(if (K i 4) < ((K i 0) / 60) then (K i 4) else ((K i 0) / 60))))) 6 (((K i) 6) + (if (K i 4) < ((K i 0) / 60) then (K i 4) else ((K i 0) / 60)))) 8 (((K i) 8) + (if (K i 4) < ((K i 0) / 60) then (K i 4) else ((K i 0) / 60))))) 7).trans rfl) (va_up K i (upd (upd (upd (upd (K i) 4 ((K i 4) + (-(if (K i 4) < ((K i 0) / 60) then (K i 4) else ((K i 0) / 60))))) 6 (((K i) 6) + (if (K i 4) < ((K i 0) / 60) then (K i 4) else ((K i 0) / 60)))) 8 (((K i) 8) + (if (K i 4) < ((K i 0) / 60) then (K i 4) else ((K i 0) / 60)))) 7 (((K i) 7) + (((K i 0) / 60) - (if (K i 4) < ((K i 0) / 60) then (K i 4) else ((K i 0) / 60)))))) (by rw [va_up_self, bx_uu])) H.size) (cwV 3 hts gX2_call_X2_add rfl rfl rfl (by decide +kernel) ⟨Nat.le_of_ble_eq_true rfl, Nat.le_of_ble_eq_true rfl⟩) (cu_preV (ci := 2) sp hG hP hD rfl rfl) rfl rfl hl.1 rfl (lv_room (Nat.le_of_ble_eq_true rfl)) dX2_call_95 ⟨Nat.le_of_ble_eq_true rfl, Nat.le_of_ble_eq_true rfl⟩) sp hP hD hS hA (fun H locs hP hD hS => ?_)
          have hP : va_P D vwCl (cu_mw C o r q th (nI N) mn (va_up K i (upd (upd (upd (upd (K i) 4 ((K i 4) + (-(if (K i 4) < ((K i 0) / 60) then (K i 4) else ((K i 0) / 60))))) 6 (((K i) 6) + (if (K i 4) < ((K i 0) / 60) then (K i 4) else ((K i 0) / 60)))) 8 (((K i) 8) + (if (K i 4) < ((K i 0) / 60) then (K i 4) else ((K i 0) / 60)))) 7 (((K i) 7) + (((K i 0) / 60) - (if (K i 4) < ((K i 0) / 60) then (K i 4) else ((K i 0) / 60))))))) H := hP
          have hD : va_D A (cu_mw C o r q th (nI N) mn (va_up K i (upd (upd (upd (upd (K i) 4 ((K i 4) + (-(if (K i 4) < ((K i 0) / 60) then (K i 4) else ((K i 0) / 60))))) 6 (((K i) 6) + (if (K i 4) < ((K i 0) / 60) then (K i 4) else ((K i 0) / 60)))) 8 (((K i) 8) + (if (K i 4) < ((K i 0) / 60) then (K i 4) else ((K i 0) / 60)))) 7 (((K i) 7) + (((K i 0) / 60) - (if (K i 4) < ((K i 0) / 60) then (K i 4) else ((K i 0) / 60))))))) := hD
          exact fin _ _ _ _ (by rw [← hK9, ← k_call_3 c_19 (w := ((K i 0) / 60)) (by simp only [k_due, if_pos c_11, if_pos c_19, if_neg c_24, if_pos c_36]) rfl]; exact hP) hS dX2_call_98
      · refine lv_bipush (v := 12) hx hb dX2_call_27 (by decide) ?_
        refine lv_goto (tgt := 47) hx hb dX2_call_29 (by decide) ?_
        refine lv_istore_n (lv' := [(3, .int 12), (2, .int (K i 0)), (0, .ref o), (1, .int (nI i))]) hx hb dX2_call_47 rfl hl (by decide) rfl (fun ls hl => ?_)
        refine lv_iload_n hx hb dX2_call_48 rfl (lv_at hl 0 rfl) ?_
        refine lv_aload_n hx hb dX2_call_49 rfl (lv_at hl 2 rfl) ?_
        refine lv_iload_n hx hb dX2_call_50 rfl (lv_at hl 3 rfl) ?_
        refine lv_iconst (v := 4) hx hb dX2_call_51 (by decide) ?_
        have sp := cu_sp.all (W0 := (cu_mw C o r q th (nI N) mn K)) (W1 := (cu_mw C o r q th (nI N) mn K)) rfl
        refine cu_callI (va_runV (As := [.int (nI i), .int 4]) (rest := [.int 12]) ⟨hx, hb, hml, hown, hts⟩ ((m_X2_sh l D C o r q th N hN mn K i 4 hi (by decide) (K i 4) rfl) H.size) (cwV 2 hts gX2_call_X2_sh rfl rfl rfl (by decide +kernel) ⟨Nat.le_of_ble_eq_true rfl, Nat.le_of_ble_eq_true rfl⟩) (cu_preV (ci := 2) sp hG hP hD rfl rfl) rfl rfl hl.1 rfl (lv_room (Nat.le_of_ble_eq_true rfl)) dX2_call_52 ⟨Nat.le_of_ble_eq_true rfl, Nat.le_of_ble_eq_true rfl⟩) sp hP hD hS hA (fun H locs hP hD hS => ?_)
        have hP : va_P D vwCl (cu_mw C o r q th (nI N) mn K) H := hP
        have hD : va_D A (cu_mw C o r q th (nI N) mn K) := hD
        refine va_mmin hx hb (hml.trans hl.1.symm) hown (hts (.methodLink RX2 75 Lib.Math.min.name) (by decide +kernel)) (hts (.static Lib.Math.min.name) (by decide +kernel)) (hts (.initialized "java/lang/Math") (by decide +kernel)) (hts (.code Lib.Math.min.name Lib.Math.min.code 2 (some .int)) (by decide +kernel)) (Nat.le_of_ble_eq_true rfl) (Nat.le_of_ble_eq_true rfl) (Nat.zero_le _) (Nat.zero_le _) dX2_call_55 ?_
        refine lv_istore (lv' := [(4, .int (if (K i 4) < 12 then (K i 4) else 12)), (3, .int 12), (2, .int (K i 0)), (0, .ref o), (1, .int (nI i))]) hx hb dX2_call_58 hl (by decide) rfl (fun ls hl => ?_)
        refine lv_aload_n hx hb dX2_call_60 rfl (lv_at hl 3 rfl) ?_
        refine lv_iload_n hx hb dX2_call_61 rfl (lv_at hl 4 rfl) ?_
        refine lv_iconst (v := 4) hx hb dX2_call_62 (by decide) ?_
        refine lv_iload hx hb dX2_call_63 (lv_at hl 0 rfl) ?_
        refine lv_ineg hx hb dX2_call_65 ?_
        have sp := cu_sp.all (W0 := (cu_mw C o r q th (nI N) mn K)) (W1 := (cu_mw C o r q th (nI N) mn (va_up K i (upd (K i) 4 ((K i 4) + (-(if (K i 4) < 12 then (K i 4) else 12))))))) rfl
        refine cu_callV (va_runV (As := [.int (nI i), .int 4, .int (-(if (K i 4) < 12 then (K i 4) else 12))]) (rest := []) ⟨hx, hb, hml, hown, hts⟩ ((m_X2_add l D C o r q th N hN mn K i 4 hi (by decide) (-(if (K i 4) < 12 then (K i 4) else 12)) (K i 4) rfl (va_up K i (upd (K i) 4 ((K i 4) + (-(if (K i 4) < 12 then (K i 4) else 12))))) rfl) H.size) (cwV 3 hts gX2_call_X2_add rfl rfl rfl (by decide +kernel) ⟨Nat.le_of_ble_eq_true rfl, Nat.le_of_ble_eq_true rfl⟩) (cu_preV (ci := 2) sp hG hP hD rfl rfl) rfl rfl hl.1 rfl (lv_room (Nat.le_of_ble_eq_true rfl)) dX2_call_66 ⟨Nat.le_of_ble_eq_true rfl, Nat.le_of_ble_eq_true rfl⟩) sp hP hD hS hA (fun H locs hP hD hS => ?_)
        have hP : va_P D vwCl (cu_mw C o r q th (nI N) mn (va_up K i (upd (K i) 4 ((K i 4) + (-(if (K i 4) < 12 then (K i 4) else 12)))))) H := hP
        have hD : va_D A (cu_mw C o r q th (nI N) mn (va_up K i (upd (K i) 4 ((K i 4) + (-(if (K i 4) < 12 then (K i 4) else 12)))))) := hD
        refine lv_aload_n hx hb dX2_call_69 rfl (lv_at hl 3 rfl) ?_
        refine lv_iload_n hx hb dX2_call_70 rfl (lv_at hl 4 rfl) ?_
        refine lv_bipush (v := 6) hx hb dX2_call_71 (by decide) ?_
        refine lv_iload hx hb dX2_call_73 (lv_at hl 0 rfl) ?_
        have sp := cu_sp.all (W0 := (cu_mw C o r q th (nI N) mn (va_up K i (upd (K i) 4 ((K i 4) + (-(if (K i 4) < 12 then (K i 4) else 12))))))) (W1 := (cu_mw C o r q th (nI N) mn (va_up K i (upd (upd (K i) 4 ((K i 4) + (-(if (K i 4) < 12 then (K i 4) else 12)))) 6 (((K i) 6) + (if (K i 4) < 12 then (K i 4) else 12)))))) rfl
        refine cu_callV (va_runV (As := [.int (nI i), .int 6, .int (if (K i 4) < 12 then (K i 4) else 12)]) (rest := []) ⟨hx, hb, hml, hown, hts⟩ ((m_X2_add l D C o r q th N hN mn (va_up K i (upd (K i) 4 ((K i 4) + (-(if (K i 4) < 12 then (K i 4) else 12))))) i 6 hi (by decide) (if (K i 4) < 12 then (K i 4) else 12) ((K i) 6) ((congrFun (va_up_self K i (upd (K i) 4 ((K i 4) + (-(if (K i 4) < 12 then (K i 4) else 12))))) 6).trans rfl) (va_up K i (upd (upd (K i) 4 ((K i 4) + (-(if (K i 4) < 12 then (K i 4) else 12)))) 6 (((K i) 6) + (if (K i 4) < 12 then (K i 4) else 12)))) (by rw [va_up_self, bx_uu])) H.size) (cwV 3 hts gX2_call_X2_add rfl rfl rfl (by decide +kernel) ⟨Nat.le_of_ble_eq_true rfl, Nat.le_of_ble_eq_true rfl⟩) (cu_preV (ci := 2) sp hG hP hD rfl rfl) rfl rfl hl.1 rfl (lv_room (Nat.le_of_ble_eq_true rfl)) dX2_call_75 ⟨Nat.le_of_ble_eq_true rfl, Nat.le_of_ble_eq_true rfl⟩) sp hP hD hS hA (fun H locs hP hD hS => ?_)
        have hP : va_P D vwCl (cu_mw C o r q th (nI N) mn (va_up K i (upd (upd (K i) 4 ((K i 4) + (-(if (K i 4) < 12 then (K i 4) else 12)))) 6 (((K i) 6) + (if (K i 4) < 12 then (K i 4) else 12))))) H := hP
        have hD : va_D A (cu_mw C o r q th (nI N) mn (va_up K i (upd (upd (K i) 4 ((K i 4) + (-(if (K i 4) < 12 then (K i 4) else 12)))) 6 (((K i) 6) + (if (K i 4) < 12 then (K i 4) else 12))))) := hD
        refine lv_aload_n hx hb dX2_call_78 rfl (lv_at hl 3 rfl) ?_
        refine lv_iload_n hx hb dX2_call_79 rfl (lv_at hl 4 rfl) ?_
        refine lv_bipush (v := 8) hx hb dX2_call_80 (by decide) ?_
        refine lv_iload hx hb dX2_call_82 (lv_at hl 0 rfl) ?_
        have sp := cu_sp.all (W0 := (cu_mw C o r q th (nI N) mn (va_up K i (upd (upd (K i) 4 ((K i 4) + (-(if (K i 4) < 12 then (K i 4) else 12)))) 6 (((K i) 6) + (if (K i 4) < 12 then (K i 4) else 12)))))) (W1 := (cu_mw C o r q th (nI N) mn (va_up K i (upd (upd (upd (K i) 4 ((K i 4) + (-(if (K i 4) < 12 then (K i 4) else 12)))) 6 (((K i) 6) + (if (K i 4) < 12 then (K i 4) else 12))) 8 (((K i) 8) + (if (K i 4) < 12 then (K i 4) else 12)))))) rfl
        refine cu_callV (va_runV (As := [.int (nI i), .int 8, .int (if (K i 4) < 12 then (K i 4) else 12)]) (rest := []) ⟨hx, hb, hml, hown, hts⟩ ((m_X2_add l D C o r q th N hN mn (va_up K i (upd (upd (K i) 4 ((K i 4) + (-(if (K i 4) < 12 then (K i 4) else 12)))) 6 (((K i) 6) + (if (K i 4) < 12 then (K i 4) else 12)))) i 8 hi (by decide) (if (K i 4) < 12 then (K i 4) else 12) ((K i) 8) ((congrFun (va_up_self K i (upd (upd (K i) 4 ((K i 4) + (-(if (K i 4) < 12 then (K i 4) else 12)))) 6 (((K i) 6) + (if (K i 4) < 12 then (K i 4) else 12)))) 8).trans rfl) (va_up K i (upd (upd (upd (K i) 4 ((K i 4) + (-(if (K i 4) < 12 then (K i 4) else 12)))) 6 (((K i) 6) + (if (K i 4) < 12 then (K i 4) else 12))) 8 (((K i) 8) + (if (K i 4) < 12 then (K i 4) else 12)))) (by rw [va_up_self, bx_uu])) H.size) (cwV 3 hts gX2_call_X2_add rfl rfl rfl (by decide +kernel) ⟨Nat.le_of_ble_eq_true rfl, Nat.le_of_ble_eq_true rfl⟩) (cu_preV (ci := 2) sp hG hP hD rfl rfl) rfl rfl hl.1 rfl (lv_room (Nat.le_of_ble_eq_true rfl)) dX2_call_84 ⟨Nat.le_of_ble_eq_true rfl, Nat.le_of_ble_eq_true rfl⟩) sp hP hD hS hA (fun H locs hP hD hS => ?_)
        have hP : va_P D vwCl (cu_mw C o r q th (nI N) mn (va_up K i (upd (upd (upd (K i) 4 ((K i 4) + (-(if (K i 4) < 12 then (K i 4) else 12)))) 6 (((K i) 6) + (if (K i 4) < 12 then (K i 4) else 12))) 8 (((K i) 8) + (if (K i 4) < 12 then (K i 4) else 12))))) H := hP
        have hD : va_D A (cu_mw C o r q th (nI N) mn (va_up K i (upd (upd (upd (K i) 4 ((K i 4) + (-(if (K i 4) < 12 then (K i 4) else 12)))) 6 (((K i) 6) + (if (K i 4) < 12 then (K i 4) else 12))) 8 (((K i) 8) + (if (K i 4) < 12 then (K i 4) else 12))))) := hD
        refine lv_aload_n hx hb dX2_call_87 rfl (lv_at hl 3 rfl) ?_
        refine lv_iload_n hx hb dX2_call_88 rfl (lv_at hl 4 rfl) ?_
        refine lv_bipush (v := 7) hx hb dX2_call_89 (by decide) ?_
        refine lv_iload_n hx hb dX2_call_91 rfl (lv_at hl 1 rfl) ?_
        refine lv_iload hx hb dX2_call_92 (lv_at hl 0 rfl) ?_
        refine lv_isub hx hb dX2_call_94 ?_
        have sp := cu_sp.all (W0 := (cu_mw C o r q th (nI N) mn (va_up K i (upd (upd (upd (K i) 4 ((K i 4) + (-(if (K i 4) < 12 then (K i 4) else 12)))) 6 (((K i) 6) + (if (K i 4) < 12 then (K i 4) else 12))) 8 (((K i) 8) + (if (K i 4) < 12 then (K i 4) else 12)))))) (W1 := (cu_mw C o r q th (nI N) mn (va_up K i (upd (upd (upd (upd (K i) 4 ((K i 4) + (-(if (K i 4) < 12 then (K i 4) else 12)))) 6 (((K i) 6) + (if (K i 4) < 12 then (K i 4) else 12))) 8 (((K i) 8) + (if (K i 4) < 12 then (K i 4) else 12))) 7 (((K i) 7) + (12 - (if (K i 4) < 12 then (K i 4) else 12))))))) rfl
        refine cu_callV (va_runV (As := [.int (nI i), .int 7, .int (12 - (if (K i 4) < 12 then (K i 4) else 12))]) (rest := []) ⟨hx, hb, hml, hown, hts⟩ ((m_X2_add l D C o r q th N hN mn (va_up K i (upd (upd (upd (K i) 4 ((K i 4) + (-(if (K i 4) < 12 then (K i 4) else 12)))) 6 (((K i) 6) + (if (K i 4) < 12 then (K i 4) else 12))) 8 (((K i) 8) + (if (K i 4) < 12 then (K i 4) else 12)))) i 7 hi (by decide) (12 - (if (K i 4) < 12 then (K i 4) else 12)) ((K i) 7) ((congrFun (va_up_self K i (upd (upd (upd (K i) 4 ((K i 4) + (-(if (K i 4) < 12 then (K i 4) else 12)))) 6 (((K i) 6) + (if (K i 4) < 12 then (K i 4) else 12))) 8 (((K i) 8) + (if (K i 4) < 12 then (K i 4) else 12)))) 7).trans rfl) (va_up K i (upd (upd (upd (upd (K i) 4 ((K i 4) + (-(if (K i 4) < 12 then (K i 4) else 12)))) 6 (((K i) 6) + (if (K i 4) < 12 then (K i 4) else 12))) 8 (((K i) 8) + (if (K i 4) < 12 then (K i 4) else 12))) 7 (((K i) 7) + (12 - (if (K i 4) < 12 then (K i 4) else 12))))) (by rw [va_up_self, bx_uu])) H.size) (cwV 3 hts gX2_call_X2_add rfl rfl rfl (by decide +kernel) ⟨Nat.le_of_ble_eq_true rfl, Nat.le_of_ble_eq_true rfl⟩) (cu_preV (ci := 2) sp hG hP hD rfl rfl) rfl rfl hl.1 rfl (lv_room (Nat.le_of_ble_eq_true rfl)) dX2_call_95 ⟨Nat.le_of_ble_eq_true rfl, Nat.le_of_ble_eq_true rfl⟩) sp hP hD hS hA (fun H locs hP hD hS => ?_)
        have hP : va_P D vwCl (cu_mw C o r q th (nI N) mn (va_up K i (upd (upd (upd (upd (K i) 4 ((K i 4) + (-(if (K i 4) < 12 then (K i 4) else 12)))) 6 (((K i) 6) + (if (K i 4) < 12 then (K i 4) else 12))) 8 (((K i) 8) + (if (K i 4) < 12 then (K i 4) else 12))) 7 (((K i) 7) + (12 - (if (K i 4) < 12 then (K i 4) else 12)))))) H := hP
        have hD : va_D A (cu_mw C o r q th (nI N) mn (va_up K i (upd (upd (upd (upd (K i) 4 ((K i 4) + (-(if (K i 4) < 12 then (K i 4) else 12)))) 6 (((K i) 6) + (if (K i 4) < 12 then (K i 4) else 12))) 8 (((K i) 8) + (if (K i 4) < 12 then (K i 4) else 12))) 7 (((K i) 7) + (12 - (if (K i 4) < 12 then (K i 4) else 12)))))) := hD
        exact fin _ _ _ _ (by rw [← hK9, ← k_call_3 c_19 (w := 12) (by simp only [k_due, if_pos c_11, if_pos c_19, if_pos c_24]) rfl]; exact hP) hS dX2_call_98
    · exact fin _ _ _ _ (by rw [← hK9, k_call_2 c_19, va_up_eta]; exact hP) hS dX2_call_22
