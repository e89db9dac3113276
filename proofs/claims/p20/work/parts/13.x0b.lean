set_option maxHeartbeats 4000000 in
set_option maxRecDepth 100000 in
theorem m_X0_turn (l : Launch) (D : va_G) (C : Nat → ClassId) (h0 : Nat) (K : Nat → Int32) : cu_V l D C yX0_turn wsX0_turn { frames := 2, cells := 0, slots := 0, locals := 43 } [.ref h0] (cu_wc h0 K) (cu_wc h0 (k_turn K)) 0 0 := by
  refine cu_openV (cc := cX0_turn) (maxL := 3) (own := RX0) (by decide) rfl rfl (Nat.le_of_ble_eq_true rfl) ?_
  intro p e s m args below meth c A Z H0 ls e0 hx hb hml hts hown hnm hG hP hD hS hA hl fin
  have hK := hG.1
  have hl : lv_has ls 3 [(0, .ref h0)] := hl
  have hiX0 : ∀ w ∈ wsX00, w ∈ wsX0_turn := by decide +kernel
  refine lv_aload_n hx hb dX0_turn_0 rfl (lv_at hl 0 rfl) ?_
  refine va_get (D := D) (ci := 0) (v := .int (K 1)) (C := RX0) (T := TX0) (N := 14) hx hb hts hiX0 hown hK hP 0 rfl rfl 8 (by decide) (hts (.fieldLink RX0 37 "CuckooShop$Clock" "rest" "I") (by decide +kernel)) (fun _ h9 => h9) rfl dX0_turn_1 ?_
  refine lv_aload_n hx hb dX0_turn_4 rfl (lv_at hl 0 rfl) ?_
  have sp := cu_sp.all (W0 := (cu_wc h0 K)) (W1 := (cu_wc h0 K)) rfl
  refine cu_callI (va_runV (As := []) (rest := [.int (K 1)]) ⟨hx, hb, hml, hown, hts⟩ ((m_X0_advance l D C h0 K) H0.size) (cwV 0 hts gX0_turn_X0_advance rfl rfl rfl (by decide +kernel) ⟨Nat.le_of_ble_eq_true rfl, Nat.le_of_ble_eq_true rfl⟩) (cu_preV (ci := 0) sp hG hP hD rfl rfl) rfl rfl hl.1 rfl (lv_room (Nat.le_of_ble_eq_true rfl)) dX0_turn_5 ⟨Nat.le_of_ble_eq_true rfl, Nat.le_of_ble_eq_true rfl⟩) sp hP hD hS hA (fun H locs hP hD hS => ?_)
  have hP : va_P D vwCl (cu_wc h0 K) H := hP
  have hD : va_D A (cu_wc h0 K) := hD
  refine lv_iadd hx hb dX0_turn_8 ?_
  refine lv_istore_n (lv' := [(1, .int ((K 1) + (k_adv K))), (0, .ref h0)]) hx hb dX0_turn_9 rfl hl (by decide) rfl (fun ls hl => ?_)
  refine lv_aload_n hx hb dX0_turn_10 rfl (lv_at hl 1 rfl) ?_
  refine lv_iload_n hx hb dX0_turn_11 rfl (lv_at hl 0 rfl) ?_
  refine lv_sipush (v := 900) hx hb dX0_turn_12 (by decide) ?_
  refine lv_irem hx hb dX0_turn_15 (by decide) ?_
  refine va_put (D := D) (ci := 0) (v := .int (((K 1) + (k_adv K)) - ((K 1) + (k_adv K)) / 900 * 900)) (ty := .int) (C := RX0) (T := TX0) (N := 14) hx hb hts hiX0 tyX0 tyX0_ok nmX0 hown hK hP hD hS 0 rfl rfl 8 (by decide) (hts (.fieldLink RX0 37 "CuckooShop$Clock" "rest" "I") (by decide +kernel)) (fun _ h9 => h9) rfl (by decide +kernel) rfl rfl (Nat.le_of_ble_eq_true rfl) dX0_turn_16 (fun H locs hP hD hS => ?_)
  have hP : va_P D vwCl (cu_wc h0 (upd K 1 (((K 1) + (k_adv K)) - ((K 1) + (k_adv K)) / 900 * 900))) H := hP
  have hD : va_D A (cu_wc h0 (upd K 1 (((K 1) + (k_adv K)) - ((K 1) + (k_adv K)) / 900 * 900))) := hD
  refine lv_iload_n hx hb dX0_turn_19 rfl (lv_at hl 0 rfl) ?_
  refine lv_sipush (v := 900) hx hb dX0_turn_20 (by decide) ?_
  refine lv_idiv hx hb dX0_turn_23 (by decide) ?_
  refine lv_istore_n (lv' := [(2, .int (((K 1) + (k_adv K)) / 900)), (1, .int ((K 1) + (k_adv K))), (0, .ref h0)]) hx hb dX0_turn_24 rfl hl (by decide) rfl (fun ls hl => ?_)
  have loop : ∀ (j : Nat), ∀ (Kc : Nat → Int32) (lf : Int32), lf.toInt.toNat = j → k_ticks j Kc = k_turn K → ∀ (H : Heap) (locs : List Loc) (ls : Array Slot), va_P D vwCl (cu_wc h0 Kc) H → va_D A (cu_wc h0 Kc) → va_S A H0 H locs → lv_has ls 3 [(0, .ref h0), (1, .int ((K 1) + (k_adv K))), (2, .int lf)] → W p l e { frames := 2, cells := 0, slots := 0, locals := 43 } s m args below meth c H locs 0 0 Z (F0 m 25 ls []) := by
    intro j
    induction j with
    | zero =>
      intro Kc lf hj hf H locs ls hP hD hS hl
      refine lv_iload_n hx hb dX0_turn_25 rfl (lv_at hl 2 rfl) ?_
      refine lv_if_le (tgt := 71) hx hb dX0_turn_26 (by decide) (fun c_26 => ?_) (fun c_26 => absurd (cu_dn0 hj) c_26)
      exact fin _ _ _ _ (by rw [← hf]; exact hP) hS dX0_turn_71
    | succ j ih =>
      intro Kc lf hj hf H locs ls hP hD hS hl
      refine lv_iload_n hx hb dX0_turn_25 rfl (lv_at hl 2 rfl) ?_
      refine lv_if_le (tgt := 71) hx hb dX0_turn_26 (by decide) (fun c_26 => absurd c_26 (cu_dn1 hj)) (fun c_26 => ?_)
      refine lv_aload_n hx hb dX0_turn_29 rfl (lv_at hl 0 rfl) ?_
      refine lv_aload_n hx hb dX0_turn_30 rfl (lv_at hl 0 rfl) ?_
      refine va_get (D := D) (ci := 0) (v := .int (Kc 0)) (C := RX0) (T := TX0) (N := 14) hx hb hts hiX0 hown hK hP 0 rfl rfl 7 (by decide) (hts (.fieldLink RX0 34 "CuckooShop$Clock" "shown" "I") (by decide +kernel)) (fun _ h9 => h9) rfl dX0_turn_31 ?_
      refine lv_iconst (v := 1) hx hb dX0_turn_34 (by decide) ?_
      refine lv_iadd hx hb dX0_turn_35 ?_
      refine lv_sipush (v := 720) hx hb dX0_turn_36 (by decide) ?_
      refine lv_irem hx hb dX0_turn_39 (by decide) ?_
      refine va_put (D := D) (ci := 0) (v := .int (((Kc 0) + 1) - ((Kc 0) + 1) / 720 * 720)) (ty := .int) (C := RX0) (T := TX0) (N := 14) hx hb hts hiX0 tyX0 tyX0_ok nmX0 hown hK hP hD hS 0 rfl rfl 7 (by decide) (hts (.fieldLink RX0 34 "CuckooShop$Clock" "shown" "I") (by decide +kernel)) (fun _ h9 => h9) rfl (by decide +kernel) rfl rfl (Nat.le_of_ble_eq_true rfl) dX0_turn_40 (fun H locs hP hD hS => ?_)
      have hP : va_P D vwCl (cu_wc h0 (upd Kc 0 (((Kc 0) + 1) - ((Kc 0) + 1) / 720 * 720))) H := hP
      have hD : va_D A (cu_wc h0 (upd Kc 0 (((Kc 0) + 1) - ((Kc 0) + 1) / 720 * 720))) := hD
      refine lv_aload_n hx hb dX0_turn_43 rfl (lv_at hl 0 rfl) ?_
      refine lv_aload_n hx hb dX0_turn_44 rfl (lv_at hl 0 rfl) ?_
      refine va_get (D := D) (ci := 0) (v := .int (((Kc 0) + 1) - ((Kc 0) + 1) / 720 * 720)) (C := RX0) (T := TX0) (N := 14) hx hb hts hiX0 hown hK hP 0 rfl rfl 7 (by decide) (hts (.fieldLink RX0 34 "CuckooShop$Clock" "shown" "I") (by decide +kernel)) (fun _ h9 => h9) rfl dX0_turn_45 ?_
      have sp := cu_sp.all (W0 := (cu_wc h0 (upd Kc 0 (((Kc 0) + 1) - ((Kc 0) + 1) / 720 * 720)))) (W1 := (cu_wc h0 (upd Kc 0 (((Kc 0) + 1) - ((Kc 0) + 1) / 720 * 720)))) rfl
      refine cu_callI (va_runV (As := [.int (((Kc 0) + 1) - ((Kc 0) + 1) / 720 * 720)]) (rest := []) ⟨hx, hb, hml, hown, hts⟩ ((m_X0_isShutAt l D C h0 (upd Kc 0 (((Kc 0) + 1) - ((Kc 0) + 1) / 720 * 720)) (((Kc 0) + 1) - ((Kc 0) + 1) / 720 * 720)) H.size) (cwV 1 hts gX0_turn_X0_isShutAt rfl rfl rfl (by decide +kernel) ⟨Nat.le_of_ble_eq_true rfl, Nat.le_of_ble_eq_true rfl⟩) (cu_preV (ci := 0) sp hG hP hD rfl rfl) rfl rfl hl.1 rfl (lv_room (Nat.le_of_ble_eq_true rfl)) dX0_turn_48 ⟨Nat.le_of_ble_eq_true rfl, Nat.le_of_ble_eq_true rfl⟩) sp hP hD hS hA (fun H locs hP hD hS => ?_)
      have hP : va_P D vwCl (cu_wc h0 (upd Kc 0 (((Kc 0) + 1) - ((Kc 0) + 1) / 720 * 720))) H := hP
      have hD : va_D A (cu_wc h0 (upd Kc 0 (((Kc 0) + 1) - ((Kc 0) + 1) / 720 * 720))) := hD
      refine lv_if_ne (tgt := 65) hx hb dX0_turn_51 (by decide) (fun c_51 => ?_) (fun c_51 => ?_)
      · refine lv_iinc (v := (lf + (-1))) (lv' := [(2, .int (lf + (-1))), (0, .ref h0), (1, .int ((K 1) + (k_adv K)))]) hx hb dX0_turn_65 hl (k := 2) rfl rfl (by decide) rfl (fun ls hl => ?_)
        refine lv_goto (tgt := 25) hx hb dX0_turn_68 (by decide) ?_
        exact ih _ _ (cu_dn hj) (by rw [← hf]; simp only [k_ticks]; congr 1; simp only [k_tick]; exact (if_neg c_51).symm) _ _ _ hP hD hS (lv_sub hl [1, 2, 0] rfl)
      · refine lv_aload_n hx hb dX0_turn_54 rfl (lv_at hl 0 rfl) ?_
        refine lv_aload_n hx hb dX0_turn_55 rfl (lv_at hl 0 rfl) ?_
        refine va_get (D := D) (ci := 0) (v := .int (((Kc 0) + 1) - ((Kc 0) + 1) / 720 * 720)) (C := RX0) (T := TX0) (N := 14) hx hb hts hiX0 hown hK hP 0 rfl rfl 7 (by decide) (hts (.fieldLink RX0 34 "CuckooShop$Clock" "shown" "I") (by decide +kernel)) (fun _ h9 => h9) rfl dX0_turn_56 ?_
        have sp := cu_sp.nil (W0 := (cu_wc h0 (upd Kc 0 (((Kc 0) + 1) - ((Kc 0) + 1) / 720 * 720))))
        refine cu_callI (va_runS (As := [.int (((Kc 0) + 1) - ((Kc 0) + 1) / 720 * 720)]) (rest := [.ref h0]) ⟨hx, hb, hml, hown, hts⟩ ((m_X0_callsDueAt l D C (((Kc 0) + 1) - ((Kc 0) + 1) / 720 * 720)) H.size) (va_cwS 1 hts gX0_turn_X0_callsDueAt rfl rfl rfl (by decide +kernel) ⟨Nat.le_of_ble_eq_true rfl, Nat.le_of_ble_eq_true rfl⟩) (cu_preS sp hG hP hD) rfl rfl hl.1 rfl (lv_room (Nat.le_of_ble_eq_true rfl)) dX0_turn_59 ⟨Nat.le_of_ble_eq_true rfl, Nat.le_of_ble_eq_true rfl⟩) sp hP hD hS hA (fun H locs hP hD hS => ?_)
        have sp := cu_sp.all (W0 := (cu_wc h0 (upd Kc 0 (((Kc 0) + 1) - ((Kc 0) + 1) / 720 * 720)))) (W1 := (cu_wc h0 (k_cuckoo (upd Kc 0 (((Kc 0) + 1) - ((Kc 0) + 1) / 720 * 720)) (k_due (((Kc 0) + 1) - ((Kc 0) + 1) / 720 * 720))))) rfl
        refine cu_callV (va_runV (As := [.int (k_due (((Kc 0) + 1) - ((Kc 0) + 1) / 720 * 720))]) (rest := []) ⟨hx, hb, hml, hown, hts⟩ ((m_X0_cuckoo l D C h0 (upd Kc 0 (((Kc 0) + 1) - ((Kc 0) + 1) / 720 * 720)) (k_due (((Kc 0) + 1) - ((Kc 0) + 1) / 720 * 720))) H.size) (cwV 1 hts gX0_turn_X0_cuckoo rfl rfl rfl (by decide +kernel) ⟨Nat.le_of_ble_eq_true rfl, Nat.le_of_ble_eq_true rfl⟩) (cu_preV (ci := 0) sp hG hP hD rfl rfl) rfl rfl hl.1 rfl (lv_room (Nat.le_of_ble_eq_true rfl)) dX0_turn_62 ⟨Nat.le_of_ble_eq_true rfl, Nat.le_of_ble_eq_true rfl⟩) sp hP hD hS hA (fun H locs hP hD hS => ?_)
        have hP : va_P D vwCl (cu_wc h0 (k_cuckoo (upd Kc 0 (((Kc 0) + 1) - ((Kc 0) + 1) / 720 * 720)) (k_due (((Kc 0) + 1) - ((Kc 0) + 1) / 720 * 720)))) H := hP
        have hD : va_D A (cu_wc h0 (k_cuckoo (upd Kc 0 (((Kc 0) + 1) - ((Kc 0) + 1) / 720 * 720)) (k_due (((Kc 0) + 1) - ((Kc 0) + 1) / 720 * 720)))) := hD
        refine lv_iinc (v := (lf + (-1))) (lv' := [(2, .int (lf + (-1))), (0, .ref h0), (1, .int ((K 1) + (k_adv K)))]) hx hb dX0_turn_65 hl (k := 2) rfl rfl (by decide) rfl (fun ls hl => ?_)
        refine lv_goto (tgt := 25) hx hb dX0_turn_68 (by decide) ?_
        exact ih _ _ (cu_dn hj) (by rw [← hf]; simp only [k_ticks]; congr 1; simp only [k_tick]; exact (if_pos c_51).symm) _ _ _ hP hD hS (lv_sub hl [1, 2, 0] rfl)
  exact loop _ _ _ rfl rfl _ _ _ hP hD hS (lv_sub hl [2, 1, 0] rfl)

set_option maxHeartbeats 4000000 in
set_option maxRecDepth 100000 in
theorem m_X0_runMinute (l : Launch) (D : va_G) (C : Nat → ClassId) (h0 : Nat) (K : Nat → Int32) (v1 : Int32) : cu_V l D C yX0_runMinute wsX0_runMinute { frames := 3, cells := 0, slots := 0, locals := 65 } [.ref h0, .int v1] (cu_wc h0 K) (cu_wc h0 (k_min v1 K)) 0 0 := by
  refine cu_openV (cc := cX0_runMinute) (maxL := 2) (own := RX0) (by decide) rfl rfl (Nat.le_of_ble_eq_true rfl) ?_
  intro p e s m args below meth c A Z H0 ls e0 hx hb hml hts hown hnm hG hP hD hS hA hl fin
  have hK := hG.1
  have hl : lv_has ls 2 [(0, .ref h0), (1, .int v1)] := hl
  have hiX0 : ∀ w ∈ wsX00, w ∈ wsX0_runMinute := by decide +kernel
  refine lv_aload_n hx hb dX0_runMinute_0 rfl (lv_at hl 0 rfl) ?_
  refine lv_iconst (v := 0) hx hb dX0_runMinute_1 (by decide) ?_
  refine va_put (D := D) (ci := 0) (v := .int 0) (ty := .int) (C := RX0) (T := TX0) (N := 14) hx hb hts hiX0 tyX0 tyX0_ok nmX0 hown hK hP hD hS 0 rfl rfl 13 (by decide) (hts (.fieldLink RX0 52 "CuckooShop$Clock" "latestCalls" "I") (by decide +kernel)) (fun _ h9 => h9) rfl (by decide +kernel) rfl rfl (Nat.le_of_ble_eq_true rfl) dX0_runMinute_2 (fun H locs hP hD hS => ?_)
  have hP : va_P D vwCl (cu_wc h0 (upd K 8 0)) H := hP
  have hD : va_D A (cu_wc h0 (upd K 8 0)) := hD
  refine lv_aload_n hx hb dX0_runMinute_5 rfl (lv_at hl 0 rfl) ?_
  refine va_get (D := D) (ci := 0) (v := .int (K 5)) (C := RX0) (T := TX0) (N := 14) hx hb hts hiX0 hown hK hP 0 rfl rfl 6 (by decide) (hts (.fieldLink RX0 30 "CuckooShop$Clock" "goes" "Z") (by decide +kernel)) (fun _ h9 => h9) rfl dX0_runMinute_6 ?_
  refine lv_if_eq (tgt := 21) hx hb dX0_runMinute_9 (by decide) (fun c_9 => ?_) (fun c_9 => ?_)
  · exact fin _ _ _ _ (by simpa only [k_min, if_pos c_9, reduceIte] using hP) hS dX0_runMinute_21
  · refine lv_aload_n hx hb dX0_runMinute_12 rfl (lv_at hl 0 rfl) ?_
    have sp := cu_sp.all (W0 := (cu_wc h0 (upd K 8 0))) (W1 := (cu_wc h0 (k_turn (upd K 8 0)))) rfl
    refine cu_callV (va_runV (As := []) (rest := []) ⟨hx, hb, hml, hown, hts⟩ ((m_X0_turn l D C h0 (upd K 8 0)) H.size) (cwV 0 hts gX0_runMinute_X0_turn rfl rfl rfl (by decide +kernel) ⟨Nat.le_of_ble_eq_true rfl, Nat.le_of_ble_eq_true rfl⟩) (cu_preV (ci := 0) sp hG hP hD rfl rfl) rfl rfl hl.1 rfl (lv_room (Nat.le_of_ble_eq_true rfl)) dX0_runMinute_13 ⟨Nat.le_of_ble_eq_true rfl, Nat.le_of_ble_eq_true rfl⟩) sp hP hD hS hA (fun H locs hP hD hS => ?_)
    have hP : va_P D vwCl (cu_wc h0 (k_turn (upd K 8 0))) H := hP
    have hD : va_D A (cu_wc h0 (k_turn (upd K 8 0))) := hD
    refine lv_aload_n hx hb dX0_runMinute_16 rfl (lv_at hl 0 rfl) ?_
    refine lv_iload_n hx hb dX0_runMinute_17 rfl (lv_at hl 1 rfl) ?_
    have sp := cu_sp.all (W0 := (cu_wc h0 (k_turn (upd K 8 0)))) (W1 := (cu_wc h0 (k_wear v1 (k_turn (upd K 8 0))))) rfl
    refine cu_callV (va_runV (As := [.int v1]) (rest := []) ⟨hx, hb, hml, hown, hts⟩ ((m_X0_wear l D C h0 (k_turn (upd K 8 0)) v1) H.size) (cwV 1 hts gX0_runMinute_X0_wear rfl rfl rfl (by decide +kernel) ⟨Nat.le_of_ble_eq_true rfl, Nat.le_of_ble_eq_true rfl⟩) (cu_preV (ci := 0) sp hG hP hD rfl rfl) rfl rfl hl.1 rfl (lv_room (Nat.le_of_ble_eq_true rfl)) dX0_runMinute_18 ⟨Nat.le_of_ble_eq_true rfl, Nat.le_of_ble_eq_true rfl⟩) sp hP hD hS hA (fun H locs hP hD hS => ?_)
    have hP : va_P D vwCl (cu_wc h0 (k_wear v1 (k_turn (upd K 8 0)))) H := hP
    have hD : va_D A (cu_wc h0 (k_wear v1 (k_turn (upd K 8 0)))) := hD
    exact fin _ _ _ _ (by simpa only [k_min, if_neg c_9, reduceIte] using hP) hS dX0_runMinute_21

set_option maxHeartbeats 4000000 in
set_option maxRecDepth 100000 in
theorem m_X0_minit (l : Launch) (D : va_G) (C : Nat → ClassId) (h0 : Nat) (K : Nat → Int32) : cu_V l D C yX0_init wsX0_init { frames := 1, cells := 0, slots := 0, locals := 12 } [.ref h0] (cu_wc h0 K) (cu_wc h0 (k_new K)) 0 0 := by
  refine cu_openV (cc := cX0_init) (maxL := 1) (own := RX0) (by decide) rfl rfl (Nat.le_of_ble_eq_true rfl) ?_
  intro p e s m args below meth c A Z H0 ls e0 hx hb hml hts hown hnm hG hP hD hS hA hl fin
  have hK := hG.1
  have hl : lv_has ls 1 [(0, .ref h0)] := hl
  have hiX0 : ∀ w ∈ wsX00, w ∈ wsX0_init := by decide +kernel
  refine lv_aload_n hx hb dX0_init_0 rfl (lv_at hl 0 rfl) ?_
  refine W.objInit hx hb hown (hts (.methodLink RX0 3 objectInit) (by decide +kernel)) (hts (.instanceMethod objectInit) (by decide +kernel)) (hts (.code objectInit ⟨#[0xb1]⟩ 1 none) (by decide +kernel)) rfl (by rw [hml]; exact hl.1) rfl dX0_init_1 (Nat.le_of_ble_eq_true rfl) (Nat.le_of_ble_eq_true rfl) ?_
  refine W.eq (g2 := F0 m 4 ls []) rfl ?_
  refine lv_aload_n hx hb dX0_init_4 rfl (lv_at hl 0 rfl) ?_
  refine lv_bipush (v := 30) hx hb dX0_init_5 (by decide) ?_
  refine va_put (D := D) (ci := 0) (v := .int 30) (ty := .int) (C := RX0) (T := TX0) (N := 14) hx hb hts hiX0 tyX0 tyX0_ok nmX0 hown hK hP hD hS 0 rfl rfl 0 (by decide) (hts (.fieldLink RX0 9 "CuckooShop$Clock" "gearA" "I") (by decide +kernel)) (fun _ h9 => h9) rfl (by decide +kernel) rfl rfl (Nat.le_of_ble_eq_true rfl) dX0_init_7 (fun H locs hP hD hS => ?_)
  have hP : va_P D vwCl (cu_wc h0 (upd K 9 30)) H := hP
  have hD : va_D A (cu_wc h0 (upd K 9 30)) := hD
  refine lv_aload_n hx hb dX0_init_10 rfl (lv_at hl 0 rfl) ?_
  refine lv_bipush (v := 30) hx hb dX0_init_11 (by decide) ?_
  refine va_put (D := D) (ci := 0) (v := .int 30) (ty := .int) (C := RX0) (T := TX0) (N := 14) hx hb hts hiX0 tyX0 tyX0_ok nmX0 hown hK hP hD hS 0 rfl rfl 1 (by decide) (hts (.fieldLink RX0 15 "CuckooShop$Clock" "gearB" "I") (by decide +kernel)) (fun _ h9 => h9) rfl (by decide +kernel) rfl rfl (Nat.le_of_ble_eq_true rfl) dX0_init_13 (fun H locs hP hD hS => ?_)
  have hP : va_P D vwCl (cu_wc h0 (upd (upd K 9 30) 10 30)) H := hP
  have hD : va_D A (cu_wc h0 (upd (upd K 9 30) 10 30)) := hD
  refine lv_aload_n hx hb dX0_init_16 rfl (lv_at hl 0 rfl) ?_
  refine lv_iconst (v := 0) hx hb dX0_init_17 (by decide) ?_
  refine va_put (D := D) (ci := 0) (v := .int 0) (ty := .int) (C := RX0) (T := TX0) (N := 14) hx hb hts hiX0 tyX0 tyX0_ok nmX0 hown hK hP hD hS 0 rfl rfl 2 (by decide) (hts (.fieldLink RX0 18 "CuckooShop$Clock" "swing" "I") (by decide +kernel)) (fun _ h9 => h9) rfl (by decide +kernel) rfl rfl (Nat.le_of_ble_eq_true rfl) dX0_init_18 (fun H locs hP hD hS => ?_)
  have hP : va_P D vwCl (cu_wc h0 (upd (upd (upd K 9 30) 10 30) 11 0)) H := hP
  have hD : va_D A (cu_wc h0 (upd (upd (upd K 9 30) 10 30) 11 0)) := hD
  refine lv_aload_n hx hb dX0_init_21 rfl (lv_at hl 0 rfl) ?_
  refine lv_sipush (v := 600) hx hb dX0_init_22 (by decide) ?_
  refine va_put (D := D) (ci := 0) (v := .int 600) (ty := .int) (C := RX0) (T := TX0) (N := 14) hx hb hts hiX0 tyX0 tyX0_ok nmX0 hown hK hP hD hS 0 rfl rfl 3 (by decide) (hts (.fieldLink RX0 21 "CuckooShop$Clock" "chain" "I") (by decide +kernel)) (fun _ h9 => h9) rfl (by decide +kernel) rfl rfl (Nat.le_of_ble_eq_true rfl) dX0_init_25 (fun H locs hP hD hS => ?_)
  have hP : va_P D vwCl (cu_wc h0 (upd (upd (upd (upd K 9 30) 10 30) 11 0) 2 600)) H := hP
  have hD : va_D A (cu_wc h0 (upd (upd (upd (upd K 9 30) 10 30) 11 0) 2 600)) := hD
  refine lv_aload_n hx hb dX0_init_28 rfl (lv_at hl 0 rfl) ?_
  refine lv_bipush (v := 100) hx hb dX0_init_29 (by decide) ?_
  refine va_put (D := D) (ci := 0) (v := .int 100) (ty := .int) (C := RX0) (T := TX0) (N := 14) hx hb hts hiX0 tyX0 tyX0_ok nmX0 hown hK hP hD hS 0 rfl rfl 4 (by decide) (hts (.fieldLink RX0 24 "CuckooShop$Clock" "oil" "I") (by decide +kernel)) (fun _ h9 => h9) rfl (by decide +kernel) rfl rfl (Nat.le_of_ble_eq_true rfl) dX0_init_31 (fun H locs hP hD hS => ?_)
  have hP : va_P D vwCl (cu_wc h0 (upd (upd (upd (upd (upd K 9 30) 10 30) 11 0) 2 600) 3 100)) H := hP
  have hD : va_D A (cu_wc h0 (upd (upd (upd (upd (upd K 9 30) 10 30) 11 0) 2 600) 3 100)) := hD
  refine lv_aload_n hx hb dX0_init_34 rfl (lv_at hl 0 rfl) ?_
  refine lv_bipush (v := 60) hx hb dX0_init_35 (by decide) ?_
  refine va_put (D := D) (ci := 0) (v := .int 60) (ty := .int) (C := RX0) (T := TX0) (N := 14) hx hb hts hiX0 tyX0 tyX0_ok nmX0 hown hK hP hD hS 0 rfl rfl 5 (by decide) (hts (.fieldLink RX0 27 "CuckooShop$Clock" "bellows" "I") (by decide +kernel)) (fun _ h9 => h9) rfl (by decide +kernel) rfl rfl (Nat.le_of_ble_eq_true rfl) dX0_init_37 (fun H locs hP hD hS => ?_)
  have hP : va_P D vwCl (cu_wc h0 (upd (upd (upd (upd (upd (upd K 9 30) 10 30) 11 0) 2 600) 3 100) 4 60)) H := hP
  have hD : va_D A (cu_wc h0 (upd (upd (upd (upd (upd (upd K 9 30) 10 30) 11 0) 2 600) 3 100) 4 60)) := hD
  refine lv_aload_n hx hb dX0_init_40 rfl (lv_at hl 0 rfl) ?_
  refine lv_iconst (v := 1) hx hb dX0_init_41 (by decide) ?_
  refine va_put (D := D) (ci := 0) (v := .int 1) (ty := .boolean) (C := RX0) (T := TX0) (N := 14) hx hb hts hiX0 tyX0 tyX0_ok nmX0 hown hK hP hD hS 0 rfl rfl 6 (by decide) (hts (.fieldLink RX0 30 "CuckooShop$Clock" "goes" "Z") (by decide +kernel)) (fun _ h9 => h9) rfl (by decide +kernel) rfl rfl (Nat.le_of_ble_eq_true rfl) dX0_init_42 (fun H locs hP hD hS => ?_)
  have hP : va_P D vwCl (cu_wc h0 (upd (upd (upd (upd (upd (upd (upd K 9 30) 10 30) 11 0) 2 600) 3 100) 4 60) 5 1)) H := hP
  have hD : va_D A (cu_wc h0 (upd (upd (upd (upd (upd (upd (upd K 9 30) 10 30) 11 0) 2 600) 3 100) 4 60) 5 1)) := hD
  refine lv_aload_n hx hb dX0_init_45 rfl (lv_at hl 0 rfl) ?_
  refine lv_iconst (v := 0) hx hb dX0_init_46 (by decide) ?_
  refine va_put (D := D) (ci := 0) (v := .int 0) (ty := .int) (C := RX0) (T := TX0) (N := 14) hx hb hts hiX0 tyX0 tyX0_ok nmX0 hown hK hP hD hS 0 rfl rfl 7 (by decide) (hts (.fieldLink RX0 34 "CuckooShop$Clock" "shown" "I") (by decide +kernel)) (fun _ h9 => h9) rfl (by decide +kernel) rfl rfl (Nat.le_of_ble_eq_true rfl) dX0_init_47 (fun H locs hP hD hS => ?_)
  have hP : va_P D vwCl (cu_wc h0 (upd (upd (upd (upd (upd (upd (upd (upd K 9 30) 10 30) 11 0) 2 600) 3 100) 4 60) 5 1) 0 0)) H := hP
  have hD : va_D A (cu_wc h0 (upd (upd (upd (upd (upd (upd (upd (upd K 9 30) 10 30) 11 0) 2 600) 3 100) 4 60) 5 1) 0 0)) := hD
  refine lv_aload_n hx hb dX0_init_50 rfl (lv_at hl 0 rfl) ?_
  refine lv_iconst (v := 0) hx hb dX0_init_51 (by decide) ?_
  refine va_put (D := D) (ci := 0) (v := .int 0) (ty := .int) (C := RX0) (T := TX0) (N := 14) hx hb hts hiX0 tyX0 tyX0_ok nmX0 hown hK hP hD hS 0 rfl rfl 8 (by decide) (hts (.fieldLink RX0 37 "CuckooShop$Clock" "rest" "I") (by decide +kernel)) (fun _ h9 => h9) rfl (by decide +kernel) rfl rfl (Nat.le_of_ble_eq_true rfl) dX0_init_52 (fun H locs hP hD hS => ?_)
  have hP : va_P D vwCl (cu_wc h0 (upd (upd (upd (upd (upd (upd (upd (upd (upd K 9 30) 10 30) 11 0) 2 600) 3 100) 4 60) 5 1) 0 0) 1 0)) H := hP
  have hD : va_D A (cu_wc h0 (upd (upd (upd (upd (upd (upd (upd (upd (upd K 9 30) 10 30) 11 0) 2 600) 3 100) 4 60) 5 1) 0 0) 1 0)) := hD
  refine lv_aload_n hx hb dX0_init_55 rfl (lv_at hl 0 rfl) ?_
  refine lv_iconst (v := -1) hx hb dX0_init_56 (by decide) ?_
  refine va_put (D := D) (ci := 0) (v := .int (-1)) (ty := .int) (C := RX0) (T := TX0) (N := 14) hx hb hts hiX0 tyX0 tyX0_ok nmX0 hown hK hP hD hS 0 rfl rfl 9 (by decide) (hts (.fieldLink RX0 40 "CuckooShop$Clock" "shutFrom" "I") (by decide +kernel)) (fun _ h9 => h9) rfl (by decide +kernel) rfl rfl (Nat.le_of_ble_eq_true rfl) dX0_init_57 (fun H locs hP hD hS => ?_)
  have hP : va_P D vwCl (cu_wc h0 (upd (upd (upd (upd (upd (upd (upd (upd (upd (upd K 9 30) 10 30) 11 0) 2 600) 3 100) 4 60) 5 1) 0 0) 1 0) 12 (-1))) H := hP
  have hD : va_D A (cu_wc h0 (upd (upd (upd (upd (upd (upd (upd (upd (upd (upd K 9 30) 10 30) 11 0) 2 600) 3 100) 4 60) 5 1) 0 0) 1 0) 12 (-1))) := hD
  refine lv_aload_n hx hb dX0_init_60 rfl (lv_at hl 0 rfl) ?_
  refine lv_iconst (v := 0) hx hb dX0_init_61 (by decide) ?_
  refine va_put (D := D) (ci := 0) (v := .int 0) (ty := .int) (C := RX0) (T := TX0) (N := 14) hx hb hts hiX0 tyX0 tyX0_ok nmX0 hown hK hP hD hS 0 rfl rfl 10 (by decide) (hts (.fieldLink RX0 43 "CuckooShop$Clock" "shutTill" "I") (by decide +kernel)) (fun _ h9 => h9) rfl (by decide +kernel) rfl rfl (Nat.le_of_ble_eq_true rfl) dX0_init_62 (fun H locs hP hD hS => ?_)
  have hP : va_P D vwCl (cu_wc h0 (upd (upd (upd (upd (upd (upd (upd (upd (upd (upd (upd K 9 30) 10 30) 11 0) 2 600) 3 100) 4 60) 5 1) 0 0) 1 0) 12 (-1)) 13 0)) H := hP
  have hD : va_D A (cu_wc h0 (upd (upd (upd (upd (upd (upd (upd (upd (upd (upd (upd K 9 30) 10 30) 11 0) 2 600) 3 100) 4 60) 5 1) 0 0) 1 0) 12 (-1)) 13 0)) := hD
  refine lv_aload_n hx hb dX0_init_65 rfl (lv_at hl 0 rfl) ?_
  refine lv_iconst (v := 0) hx hb dX0_init_66 (by decide) ?_
  refine va_put (D := D) (ci := 0) (v := .int 0) (ty := .int) (C := RX0) (T := TX0) (N := 14) hx hb hts hiX0 tyX0 tyX0_ok nmX0 hown hK hP hD hS 0 rfl rfl 11 (by decide) (hts (.fieldLink RX0 46 "CuckooShop$Clock" "calls" "I") (by decide +kernel)) (fun _ h9 => h9) rfl (by decide +kernel) rfl rfl (Nat.le_of_ble_eq_true rfl) dX0_init_67 (fun H locs hP hD hS => ?_)
  have hP : va_P D vwCl (cu_wc h0 (upd (upd (upd (upd (upd (upd (upd (upd (upd (upd (upd (upd K 9 30) 10 30) 11 0) 2 600) 3 100) 4 60) 5 1) 0 0) 1 0) 12 (-1)) 13 0) 6 0)) H := hP
  have hD : va_D A (cu_wc h0 (upd (upd (upd (upd (upd (upd (upd (upd (upd (upd (upd (upd K 9 30) 10 30) 11 0) 2 600) 3 100) 4 60) 5 1) 0 0) 1 0) 12 (-1)) 13 0) 6 0)) := hD
  refine lv_aload_n hx hb dX0_init_70 rfl (lv_at hl 0 rfl) ?_
  refine lv_iconst (v := 0) hx hb dX0_init_71 (by decide) ?_
  refine va_put (D := D) (ci := 0) (v := .int 0) (ty := .int) (C := RX0) (T := TX0) (N := 14) hx hb hts hiX0 tyX0 tyX0_ok nmX0 hown hK hP hD hS 0 rfl rfl 12 (by decide) (hts (.fieldLink RX0 49 "CuckooShop$Clock" "missed" "I") (by decide +kernel)) (fun _ h9 => h9) rfl (by decide +kernel) rfl rfl (Nat.le_of_ble_eq_true rfl) dX0_init_72 (fun H locs hP hD hS => ?_)
  have hP : va_P D vwCl (cu_wc h0 (upd (upd (upd (upd (upd (upd (upd (upd (upd (upd (upd (upd (upd K 9 30) 10 30) 11 0) 2 600) 3 100) 4 60) 5 1) 0 0) 1 0) 12 (-1)) 13 0) 6 0) 7 0)) H := hP
  have hD : va_D A (cu_wc h0 (upd (upd (upd (upd (upd (upd (upd (upd (upd (upd (upd (upd (upd K 9 30) 10 30) 11 0) 2 600) 3 100) 4 60) 5 1) 0 0) 1 0) 12 (-1)) 13 0) 6 0) 7 0)) := hD
  refine lv_aload_n hx hb dX0_init_75 rfl (lv_at hl 0 rfl) ?_
  refine lv_iconst (v := 0) hx hb dX0_init_76 (by decide) ?_
  refine va_put (D := D) (ci := 0) (v := .int 0) (ty := .int) (C := RX0) (T := TX0) (N := 14) hx hb hts hiX0 tyX0 tyX0_ok nmX0 hown hK hP hD hS 0 rfl rfl 13 (by decide) (hts (.fieldLink RX0 52 "CuckooShop$Clock" "latestCalls" "I") (by decide +kernel)) (fun _ h9 => h9) rfl (by decide +kernel) rfl rfl (Nat.le_of_ble_eq_true rfl) dX0_init_77 (fun H locs hP hD hS => ?_)
  have hP : va_P D vwCl (cu_wc h0 (upd (upd (upd (upd (upd (upd (upd (upd (upd (upd (upd (upd (upd (upd K 9 30) 10 30) 11 0) 2 600) 3 100) 4 60) 5 1) 0 0) 1 0) 12 (-1)) 13 0) 6 0) 7 0) 8 0)) H := hP
  have hD : va_D A (cu_wc h0 (upd (upd (upd (upd (upd (upd (upd (upd (upd (upd (upd (upd (upd (upd K 9 30) 10 30) 11 0) 2 600) 3 100) 4 60) 5 1) 0 0) 1 0) 12 (-1)) 13 0) 6 0) 7 0) 8 0)) := hD
  exact fin _ _ _ _ hP hS dX0_init_80
