theorem cu_mw_fst {C : Nat → ClassId} {o r q : Nat} {th n m th1 n1 m1 : Int32} {K K1 : Nat → Nat → Int32} : (cu_mw C o r q th1 n1 m1 K1).map Prod.fst = (cu_mw C o r q th n m K).map Prod.fst := rfl

set_option maxHeartbeats 4000000 in
set_option maxRecDepth 100000 in
theorem m_X2_minuteOn (l : Launch) (D : va_G) (C : Nat → ClassId) (o r q : Nat) (th : Int32) (N : Nat) (hN : N ≤ 10) (mn : Int32) (K : Nat → Nat → Int32) (hok : ∀ c, c < N → k_ok (K c)) : cu_V l D C yX2_minuteOn wsX2_minuteOn { frames := 3, cells := 0, slots := 0, locals := 69 } [.ref o] (cu_mw C o r q th (nI N) mn K) (cu_mw C o r q th (nI N) (mn + 1) (k_upto (k_min mn) K N)) 0 0 := by
  refine cu_openV (cc := cX2_minuteOn) (maxL := 2) (own := RX2) (by decide) rfl rfl (Nat.le_of_ble_eq_true rfl) ?_
  intro p e s m args below meth c A Z H0 ls e0 hx hb hml hts hown hnm hG hP hD hS hA hl fin
  have hK := hG.1
  have hl : lv_has ls 2 [(0, .ref o)] := hl
  have hiX2 : ∀ w ∈ wsX20, w ∈ wsX2_minuteOn := by decide +kernel
  refine lv_iconst (v := 0) hx hb dX2_minuteOn_0 (by decide) ?_
  refine lv_istore_n (lv' := [(1, .int 0), (0, .ref o)]) hx hb dX2_minuteOn_1 rfl hl (by decide) rfl (fun ls hl => ?_)
  rw [← k_upto_0 (g := k_min mn) (K := K)] at hP hD
  have loop : ∀ (j : Nat), ∀ (i : Nat), i + j = N → ∀ (H : Heap) (locs : List Loc) (ls : Array Slot), va_P D vwCl (cu_mw C o r q th (nI N) mn (k_upto (k_min mn) K i)) H → va_D A (cu_mw C o r q th (nI N) mn (k_upto (k_min mn) K i)) → va_S A H0 H locs → lv_has ls 2 [(0, .ref o), (1, .int (nI i))] → W p l e { frames := 3, cells := 0, slots := 0, locals := 69 } s m args below meth c H locs 0 0 Z (F0 m 2 ls []) := by
    intro j
    induction j with
    | zero =>
      intro i hj H locs ls hP hD hS hl
      have eN : i = N := by omega
      refine lv_iload_n hx hb dX2_minuteOn_2 rfl (lv_at hl 1 rfl) ?_
      refine lv_aload_n hx hb dX2_minuteOn_3 rfl (lv_at hl 0 rfl) ?_
      refine va_get (D := D) (ci := 2) (v := .int (nI N)) (C := RX2) (T := TX2) (N := 4) hx hb hts hiX2 hown hK hP 0 rfl rfl 1 (by decide) (hts (.fieldLink RX2 20 "CuckooShopModel" "clocks" "I") (by decide +kernel)) (fun _ h9 => h9) rfl dX2_minuteOn_4 ?_
      refine lv_icmp_ge (tgt := 147) hx hb dX2_minuteOn_7 (by decide) (fun c_7 => ?_) (fun c_7 => absurd (nI_le (a := N) (by omega) (by omega)) c_7)
      refine lv_aload_n hx hb dX2_minuteOn_147 rfl (lv_at hl 0 rfl) ?_
      refine va_get (D := D) (ci := 2) (v := .ref q) (C := RX2) (T := TX2) (N := 4) hx hb hts hiX2 hown hK hP 0 rfl rfl 3 (by decide) (hts (.fieldLink RX2 13 "CuckooShopModel" "minute" "[I") (by decide +kernel)) (fun _ h9 => h9) rfl dX2_minuteOn_148 ?_
      refine lv_iconst (v := 0) hx hb dX2_minuteOn_151 (by decide) ?_
      refine lv_dup2_11 hx hb dX2_minuteOn_152 rfl rfl ?_
      refine va_iald (n := 1) (f := fun _ => mn) hx hb hK hP 2 0 rfl rfl (vp_in_nI (n := 0) (by decide) (by decide)) dX2_minuteOn_153 ?_
      refine cu_top (x' := mn) rfl ?_
      refine lv_iconst (v := 1) hx hb dX2_minuteOn_154 (by decide) ?_
      refine lv_iadd hx hb dX2_minuteOn_155 ?_
      refine va_iast (n := 1) (f := fun _ => mn) hx hb hK hP hD hS 2 0 rfl rfl (vp_in_nI (n := 0) (by decide) (by decide)) dX2_minuteOn_156 (fun H locs hP hD hS => ?_)
      have hP := cu_mw_m hP
      have hD : va_D A (cu_mw C o r q th (nI N) (mn + 1) (k_upto (k_min mn) K i)) := by refine cu_D_fst ?_ hD; exact cu_mw_fst (m := mn)
      have hP : va_P D vwCl (cu_mw C o r q th (nI N) (mn + 1) (k_upto (k_min mn) K i)) H := hP
      have hD : va_D A (cu_mw C o r q th (nI N) (mn + 1) (k_upto (k_min mn) K i)) := hD
      exact fin _ _ _ _ (by rw [eN] at hP; exact hP) hS dX2_minuteOn_157
    | succ j ih =>
      intro i hj H locs ls hP hD hS hl
      have hi : i < 10 := by omega
      refine lv_iload_n hx hb dX2_minuteOn_2 rfl (lv_at hl 1 rfl) ?_
      refine lv_aload_n hx hb dX2_minuteOn_3 rfl (lv_at hl 0 rfl) ?_
      refine va_get (D := D) (ci := 2) (v := .int (nI N)) (C := RX2) (T := TX2) (N := 4) hx hb hts hiX2 hown hK hP 0 rfl rfl 1 (by decide) (hts (.fieldLink RX2 20 "CuckooShopModel" "clocks" "I") (by decide +kernel)) (fun _ h9 => h9) rfl dX2_minuteOn_4 ?_
      refine lv_icmp_ge (tgt := 147) hx hb dX2_minuteOn_7 (by decide) (fun c_7 => absurd c_7 (nI_ge (b := N) (by omega) (by omega))) (fun c_7 => ?_)
      rw [← va_up_eta (k_upto (k_min mn) K i) i, k_upto_i] at hP hD
      have hi : i < 10 := by omega
      have hk0 := hok i (by omega)
      have hk8 := k_ok_u (k := 8) (v := 0) hk0 (by decide) (by decide)
      have hP : va_P D vwCl (cu_mw C o r q th (nI N) mn (va_up (k_upto (k_min mn) K i) i (K i))) H := hP
      have hD : va_D A (cu_mw C o r q th (nI N) mn (va_up (k_upto (k_min mn) K i) i (K i))) := hD
      refine lv_aload_n hx hb dX2_minuteOn_10 rfl (lv_at hl 0 rfl) ?_
      refine lv_iload_n hx hb dX2_minuteOn_11 rfl (lv_at hl 1 rfl) ?_
      refine lv_bipush (v := 8) hx hb dX2_minuteOn_12 (by decide) ?_
      refine lv_iconst (v := 0) hx hb dX2_minuteOn_14 (by decide) ?_
      have sp := cu_sp.all (W0 := (cu_mw C o r q th (nI N) mn (va_up (k_upto (k_min mn) K i) i (K i)))) (W1 := (cu_mw C o r q th (nI N) mn (va_up (k_upto (k_min mn) K i) i (upd (K i) 8 0)))) cu_mw_fst
      refine cu_callV (va_runV (As := [.int (nI i), .int 8, .int 0]) (rest := []) ⟨hx, hb, hml, hown, hts⟩ ((m_X2_put l D C o r q th N hN mn (va_up (k_upto (k_min mn) K i) i (K i)) i 8 hi (by decide) 0 (va_up (k_upto (k_min mn) K i) i (upd (K i) 8 0)) (by rw [va_up_self, bx_uu])) H.size) (cwV 3 hts gX2_minuteOn_X2_put rfl rfl rfl (by decide +kernel) ⟨Nat.le_of_ble_eq_true rfl, Nat.le_of_ble_eq_true rfl⟩) (cu_preV (ci := 2) sp hG hP hD rfl rfl) rfl rfl hl.1 rfl (lv_room (Nat.le_of_ble_eq_true rfl)) dX2_minuteOn_15 ⟨Nat.le_of_ble_eq_true rfl, Nat.le_of_ble_eq_true rfl⟩) sp hP hD hS hA (fun H locs hP hD hS => ?_)
      have hP : va_P D vwCl (cu_mw C o r q th (nI N) mn (va_up (k_upto (k_min mn) K i) i (upd (K i) 8 0))) H := hP
      have hD : va_D A (cu_mw C o r q th (nI N) mn (va_up (k_upto (k_min mn) K i) i (upd (K i) 8 0))) := hD
      refine lv_aload_n hx hb dX2_minuteOn_18 rfl (lv_at hl 0 rfl) ?_
      refine lv_iload_n hx hb dX2_minuteOn_19 rfl (lv_at hl 1 rfl) ?_
      refine lv_iconst (v := 5) hx hb dX2_minuteOn_20 (by decide) ?_
      have sp := cu_sp.all (W0 := (cu_mw C o r q th (nI N) mn (va_up (k_upto (k_min mn) K i) i (upd (K i) 8 0)))) (W1 := (cu_mw C o r q th (nI N) mn (va_up (k_upto (k_min mn) K i) i (upd (K i) 8 0)))) rfl
      refine cu_callI (va_runV (As := [.int (nI i), .int 5]) (rest := []) ⟨hx, hb, hml, hown, hts⟩ ((m_X2_sh l D C o r q th N hN mn (va_up (k_upto (k_min mn) K i) i (upd (K i) 8 0)) i 5 hi (by decide) ((K i) 5) ((congrFun (va_up_self (k_upto (k_min mn) K i) i (upd (K i) 8 0)) 5).trans rfl)) H.size) (cwV 2 hts gX2_minuteOn_X2_sh rfl rfl rfl (by decide +kernel) ⟨Nat.le_of_ble_eq_true rfl, Nat.le_of_ble_eq_true rfl⟩) (cu_preV (ci := 2) sp hG hP hD rfl rfl) rfl rfl hl.1 rfl (lv_room (Nat.le_of_ble_eq_true rfl)) dX2_minuteOn_21 ⟨Nat.le_of_ble_eq_true rfl, Nat.le_of_ble_eq_true rfl⟩) sp hP hD hS hA (fun H locs hP hD hS => ?_)
      have hP : va_P D vwCl (cu_mw C o r q th (nI N) mn (va_up (k_upto (k_min mn) K i) i (upd (K i) 8 0))) H := hP
      have hD : va_D A (cu_mw C o r q th (nI N) mn (va_up (k_upto (k_min mn) K i) i (upd (K i) 8 0))) := hD
      refine lv_if_ne (tgt := 30) hx hb dX2_minuteOn_24 (by decide) (fun c_24 => ?_) (fun c_24 => ?_)
      · refine lv_aload_n hx hb dX2_minuteOn_30 rfl (lv_at hl 0 rfl) ?_
        refine lv_iload_n hx hb dX2_minuteOn_31 rfl (lv_at hl 1 rfl) ?_
        refine lv_iconst (v := 1) hx hb dX2_minuteOn_32 (by decide) ?_
        refine lv_aload_n hx hb dX2_minuteOn_33 rfl (lv_at hl 0 rfl) ?_
        refine lv_iload_n hx hb dX2_minuteOn_34 rfl (lv_at hl 1 rfl) ?_
        have sp := cu_sp.all (W0 := (cu_mw C o r q th (nI N) mn (va_up (k_upto (k_min mn) K i) i (upd (K i) 8 0)))) (W1 := (cu_mw C o r q th (nI N) mn (va_up (k_upto (k_min mn) K i) i (upd (K i) 8 0)))) rfl
        refine cu_callI (va_runV (As := [.int (nI i)]) (rest := [.int 1, .int (nI i), .ref o]) ⟨hx, hb, hml, hown, hts⟩ ((m_X2_advance_ l D C o r q th N hN mn (va_up (k_upto (k_min mn) K i) i (upd (K i) 8 0)) i hi (upd (K i) 8 0) (va_up_self (k_upto (k_min mn) K i) i (upd (K i) 8 0))  (k_b0 hk8)) H.size) (cwV 1 hts gX2_minuteOn_X2_advance_ rfl rfl rfl (by decide +kernel) ⟨Nat.le_of_ble_eq_true rfl, Nat.le_of_ble_eq_true rfl⟩) (cu_preV (ci := 2) sp hG hP hD rfl rfl) rfl rfl hl.1 rfl (lv_room (Nat.le_of_ble_eq_true rfl)) dX2_minuteOn_35 ⟨Nat.le_of_ble_eq_true rfl, Nat.le_of_ble_eq_true rfl⟩) sp hP hD hS hA (fun H locs hP hD hS => ?_)
        have hP : va_P D vwCl (cu_mw C o r q th (nI N) mn (va_up (k_upto (k_min mn) K i) i (upd (K i) 8 0))) H := hP
        have hD : va_D A (cu_mw C o r q th (nI N) mn (va_up (k_upto (k_min mn) K i) i (upd (K i) 8 0))) := hD
        have sp := cu_sp.all (W0 := (cu_mw C o r q th (nI N) mn (va_up (k_upto (k_min mn) K i) i (upd (K i) 8 0)))) (W1 := (cu_mw C o r q th (nI N) mn (va_up (k_upto (k_min mn) K i) i (upd (upd (K i) 8 0) 1 (((K i) 1) + (k_adv (upd (K i) 8 0))))))) cu_mw_fst
        refine cu_callV (va_runV (As := [.int (nI i), .int 1, .int (k_adv (upd (K i) 8 0))]) (rest := []) ⟨hx, hb, hml, hown, hts⟩ ((m_X2_add l D C o r q th N hN mn (va_up (k_upto (k_min mn) K i) i (upd (K i) 8 0)) i 1 hi (by decide) (k_adv (upd (K i) 8 0)) ((K i) 1) ((congrFun (va_up_self (k_upto (k_min mn) K i) i (upd (K i) 8 0)) 1).trans rfl) (va_up (k_upto (k_min mn) K i) i (upd (upd (K i) 8 0) 1 (((K i) 1) + (k_adv (upd (K i) 8 0))))) (by rw [va_up_self, bx_uu])) H.size) (cwV 3 hts gX2_minuteOn_X2_add rfl rfl rfl (by decide +kernel) ⟨Nat.le_of_ble_eq_true rfl, Nat.le_of_ble_eq_true rfl⟩) (cu_preV (ci := 2) sp hG hP hD rfl rfl) rfl rfl hl.1 rfl (lv_room (Nat.le_of_ble_eq_true rfl)) dX2_minuteOn_38 ⟨Nat.le_of_ble_eq_true rfl, Nat.le_of_ble_eq_true rfl⟩) sp hP hD hS hA (fun H locs hP hD hS => ?_)
        have hP : va_P D vwCl (cu_mw C o r q th (nI N) mn (va_up (k_upto (k_min mn) K i) i (upd (upd (K i) 8 0) 1 (((K i) 1) + (k_adv (upd (K i) 8 0)))))) H := hP
        have hD : va_D A (cu_mw C o r q th (nI N) mn (va_up (k_upto (k_min mn) K i) i (upd (upd (K i) 8 0) 1 (((K i) 1) + (k_adv (upd (K i) 8 0)))))) := hD
        have q0 := k_loop_0 hk8
        have q3 := q0.2.2.2.1
        have loop2 : ∀ (k : Nat), ∀ (X : Nat → Int32), 0 ≤ (X 1).toInt → (X 1).toInt / 900 = (k : Int) → (X 1).toInt % 900 = (k_rest (upd (K i) 8 0)).toInt → k_okc X → k_ticks k (upd X 1 (k_rest (upd (K i) 8 0))) = k_turn (upd (K i) 8 0) → ∀ (H : Heap) (locs : List Loc) (ls : Array Slot), va_P D vwCl (cu_mw C o r q th (nI N) mn (va_up (k_upto (k_min mn) K i) i X)) H → va_D A (cu_mw C o r q th (nI N) mn (va_up (k_upto (k_min mn) K i) i X)) → va_S A H0 H locs → lv_has ls 2 [(0, .ref o), (1, .int (nI i))] → W p l e { frames := 3, cells := 0, slots := 0, locals := 69 } s m args below meth c H locs 0 0 Z (F0 m 41 ls []) := by
          intro k
          induction k with
          | zero =>
            intro X h0 hj2 hr hc hf H locs ls hP hD hS hl
            refine lv_aload_n hx hb dX2_minuteOn_41 rfl (lv_at hl 0 rfl) ?_
            refine lv_iload_n hx hb dX2_minuteOn_42 rfl (lv_at hl 1 rfl) ?_
            refine lv_iconst (v := 1) hx hb dX2_minuteOn_43 (by decide) ?_
            have sp := cu_sp.all (W0 := (cu_mw C o r q th (nI N) mn (va_up (k_upto (k_min mn) K i) i X))) (W1 := (cu_mw C o r q th (nI N) mn (va_up (k_upto (k_min mn) K i) i X))) rfl
            refine cu_callI (va_runV (As := [.int (nI i), .int 1]) (rest := []) ⟨hx, hb, hml, hown, hts⟩ ((m_X2_sh l D C o r q th N hN mn (va_up (k_upto (k_min mn) K i) i X) i 1 hi (by decide) (X 1) ((congrFun (va_up_self (k_upto (k_min mn) K i) i X) 1).trans rfl)) H.size) (cwV 2 hts gX2_minuteOn_X2_sh rfl rfl rfl (by decide +kernel) ⟨Nat.le_of_ble_eq_true rfl, Nat.le_of_ble_eq_true rfl⟩) (cu_preV (ci := 2) sp hG hP hD rfl rfl) rfl rfl hl.1 rfl (lv_room (Nat.le_of_ble_eq_true rfl)) dX2_minuteOn_44 ⟨Nat.le_of_ble_eq_true rfl, Nat.le_of_ble_eq_true rfl⟩) sp hP hD hS hA (fun H locs hP hD hS => ?_)
            have hP : va_P D vwCl (cu_mw C o r q th (nI N) mn (va_up (k_upto (k_min mn) K i) i X)) H := hP
            have hD : va_D A (cu_mw C o r q th (nI N) mn (va_up (k_upto (k_min mn) K i) i X)) := hD
            refine lv_sipush (v := 900) hx hb dX2_minuteOn_47 (by decide) ?_
            refine lv_icmp_lt (tgt := 88) hx hb dX2_minuteOn_50 (by decide) (fun c_50 => ?_) (fun c_50 => absurd ((k_loop_lt h0 hj2).mpr rfl) c_50)
            have eX := k_loop_z h0 hj2 hr hf
            have hkX := k_turn_ok hk8
            rw [← eX] at hkX
            have h5X : ¬ X 5 = 0 := by rw [eX, k_turn_at (w := 5) (by decide) (by decide) (by decide) (by decide) (by decide) (by decide)]; exact c_24
            refine lv_aload_n hx hb dX2_minuteOn_88 rfl (lv_at hl 0 rfl) ?_
            refine lv_iload_n hx hb dX2_minuteOn_89 rfl (lv_at hl 1 rfl) ?_
            refine lv_iconst (v := 2) hx hb dX2_minuteOn_90 (by decide) ?_
            refine lv_iconst (v := -1) hx hb dX2_minuteOn_91 (by decide) ?_
            have sp := cu_sp.all (W0 := (cu_mw C o r q th (nI N) mn (va_up (k_upto (k_min mn) K i) i X))) (W1 := (cu_mw C o r q th (nI N) mn (va_up (k_upto (k_min mn) K i) i (upd X 2 ((X 2) + (-1)))))) cu_mw_fst
            refine cu_callV (va_runV (As := [.int (nI i), .int 2, .int (-1)]) (rest := []) ⟨hx, hb, hml, hown, hts⟩ ((m_X2_add l D C o r q th N hN mn (va_up (k_upto (k_min mn) K i) i X) i 2 hi (by decide) (-1) (X 2) ((congrFun (va_up_self (k_upto (k_min mn) K i) i X) 2).trans rfl) (va_up (k_upto (k_min mn) K i) i (upd X 2 ((X 2) + (-1)))) (by rw [va_up_self, bx_uu])) H.size) (cwV 3 hts gX2_minuteOn_X2_add rfl rfl rfl (by decide +kernel) ⟨Nat.le_of_ble_eq_true rfl, Nat.le_of_ble_eq_true rfl⟩) (cu_preV (ci := 2) sp hG hP hD rfl rfl) rfl rfl hl.1 rfl (lv_room (Nat.le_of_ble_eq_true rfl)) dX2_minuteOn_92 ⟨Nat.le_of_ble_eq_true rfl, Nat.le_of_ble_eq_true rfl⟩) sp hP hD hS hA (fun H locs hP hD hS => ?_)
            have hP : va_P D vwCl (cu_mw C o r q th (nI N) mn (va_up (k_upto (k_min mn) K i) i (upd X 2 ((X 2) + (-1))))) H := hP
            have hD : va_D A (cu_mw C o r q th (nI N) mn (va_up (k_upto (k_min mn) K i) i (upd X 2 ((X 2) + (-1))))) := hD
            refine lv_aload_n hx hb dX2_minuteOn_95 rfl (lv_at hl 0 rfl) ?_
            refine va_get (D := D) (ci := 2) (v := .ref q) (C := RX2) (T := TX2) (N := 4) hx hb hts hiX2 hown hK hP 0 rfl rfl 3 (by decide) (hts (.fieldLink RX2 13 "CuckooShopModel" "minute" "[I") (by decide +kernel)) (fun _ h9 => h9) rfl dX2_minuteOn_96 ?_
            refine lv_iconst (v := 0) hx hb dX2_minuteOn_99 (by decide) ?_
            refine va_iald (n := 1) (f := fun _ => mn) hx hb hK hP 2 0 rfl rfl (vp_in_nI (n := 0) (by decide) (by decide)) dX2_minuteOn_100 ?_
            refine cu_top (x' := mn) rfl ?_
            refine lv_bipush (v := 10) hx hb dX2_minuteOn_101 (by decide) ?_
            refine lv_irem hx hb dX2_minuteOn_103 (by decide) ?_
            refine lv_if_ne (tgt := 125) hx hb dX2_minuteOn_104 (by decide) (fun c_104 => ?_) (fun c_104 => ?_)
            · refine lv_aload_n hx hb dX2_minuteOn_125 rfl (lv_at hl 0 rfl) ?_
              refine lv_iload_n hx hb dX2_minuteOn_126 rfl (lv_at hl 1 rfl) ?_
              refine lv_iconst (v := 2) hx hb dX2_minuteOn_127 (by decide) ?_
              have sp := cu_sp.all (W0 := (cu_mw C o r q th (nI N) mn (va_up (k_upto (k_min mn) K i) i (upd X 2 ((X 2) + (-1)))))) (W1 := (cu_mw C o r q th (nI N) mn (va_up (k_upto (k_min mn) K i) i (upd X 2 ((X 2) + (-1)))))) rfl
              refine cu_callI (va_runV (As := [.int (nI i), .int 2]) (rest := []) ⟨hx, hb, hml, hown, hts⟩ ((m_X2_sh l D C o r q th N hN mn (va_up (k_upto (k_min mn) K i) i (upd X 2 ((X 2) + (-1)))) i 2 hi (by decide) ((X 2) + (-1)) ((congrFun (va_up_self (k_upto (k_min mn) K i) i (upd X 2 ((X 2) + (-1)))) 2).trans rfl)) H.size) (cwV 2 hts gX2_minuteOn_X2_sh rfl rfl rfl (by decide +kernel) ⟨Nat.le_of_ble_eq_true rfl, Nat.le_of_ble_eq_true rfl⟩) (cu_preV (ci := 2) sp hG hP hD rfl rfl) rfl rfl hl.1 rfl (lv_room (Nat.le_of_ble_eq_true rfl)) dX2_minuteOn_128 ⟨Nat.le_of_ble_eq_true rfl, Nat.le_of_ble_eq_true rfl⟩) sp hP hD hS hA (fun H locs hP hD hS => ?_)
              have hP : va_P D vwCl (cu_mw C o r q th (nI N) mn (va_up (k_upto (k_min mn) K i) i (upd X 2 ((X 2) + (-1))))) H := hP
              have hD : va_D A (cu_mw C o r q th (nI N) mn (va_up (k_upto (k_min mn) K i) i (upd X 2 ((X 2) + (-1))))) := hD
              refine lv_if_ne (tgt := 141) hx hb dX2_minuteOn_131 (by decide) (fun c_131 => ?_) (fun c_131 => ?_)
              · have eM : (upd X 2 ((X 2) + (-1))) = k_min mn (K i) := by
                  unfold k_min
                  rw [if_neg c_24, ← eX, k_wear_M (k_ok_2 hkX h5X) (k_ok_3 hkX)]
                  simp only [if_neg c_104, if_neg c_131]
                rw [eM, k_upto_s] at hP hD
                have hP : va_P D vwCl (cu_mw C o r q th (nI N) mn (k_upto (k_min mn) K (i + 1))) H := hP
                have hD : va_D A (cu_mw C o r q th (nI N) mn (k_upto (k_min mn) K (i + 1))) := hD
                refine lv_iinc (v := (nI (i + 1))) (lv' := [(1, .int (nI (i + 1))), (0, .ref o)]) hx hb dX2_minuteOn_141 hl (k := 1) rfl (nI_1 i) (by decide) rfl (fun ls hl => ?_)
                refine lv_goto (tgt := 2) hx hb dX2_minuteOn_144 (by decide) ?_
                exact ih (i + 1) (by omega) _ _ _ hP hD hS (lv_sub hl [1, 0] rfl)
              · refine lv_aload_n hx hb dX2_minuteOn_134 rfl (lv_at hl 0 rfl) ?_
                refine lv_iload_n hx hb dX2_minuteOn_135 rfl (lv_at hl 1 rfl) ?_
                refine lv_iconst (v := 5) hx hb dX2_minuteOn_136 (by decide) ?_
                refine lv_iconst (v := 0) hx hb dX2_minuteOn_137 (by decide) ?_
                have sp := cu_sp.all (W0 := (cu_mw C o r q th (nI N) mn (va_up (k_upto (k_min mn) K i) i (upd X 2 ((X 2) + (-1)))))) (W1 := (cu_mw C o r q th (nI N) mn (va_up (k_upto (k_min mn) K i) i (upd (upd X 2 ((X 2) + (-1))) 5 0)))) cu_mw_fst
                refine cu_callV (va_runV (As := [.int (nI i), .int 5, .int 0]) (rest := []) ⟨hx, hb, hml, hown, hts⟩ ((m_X2_put l D C o r q th N hN mn (va_up (k_upto (k_min mn) K i) i (upd X 2 ((X 2) + (-1)))) i 5 hi (by decide) 0 (va_up (k_upto (k_min mn) K i) i (upd (upd X 2 ((X 2) + (-1))) 5 0)) (by rw [va_up_self, bx_uu])) H.size) (cwV 3 hts gX2_minuteOn_X2_put rfl rfl rfl (by decide +kernel) ⟨Nat.le_of_ble_eq_true rfl, Nat.le_of_ble_eq_true rfl⟩) (cu_preV (ci := 2) sp hG hP hD rfl rfl) rfl rfl hl.1 rfl (lv_room (Nat.le_of_ble_eq_true rfl)) dX2_minuteOn_138 ⟨Nat.le_of_ble_eq_true rfl, Nat.le_of_ble_eq_true rfl⟩) sp hP hD hS hA (fun H locs hP hD hS => ?_)
                have hP : va_P D vwCl (cu_mw C o r q th (nI N) mn (va_up (k_upto (k_min mn) K i) i (upd (upd X 2 ((X 2) + (-1))) 5 0))) H := hP
                have hD : va_D A (cu_mw C o r q th (nI N) mn (va_up (k_upto (k_min mn) K i) i (upd (upd X 2 ((X 2) + (-1))) 5 0))) := hD
                have eM : (upd (upd X 2 ((X 2) + (-1))) 5 0) = k_min mn (K i) := by
                  unfold k_min
                  rw [if_neg c_24, ← eX, k_wear_M (k_ok_2 hkX h5X) (k_ok_3 hkX)]
                  simp only [if_neg c_104, if_pos c_131]
                rw [eM, k_upto_s] at hP hD
                have hP : va_P D vwCl (cu_mw C o r q th (nI N) mn (k_upto (k_min mn) K (i + 1))) H := hP
                have hD : va_D A (cu_mw C o r q th (nI N) mn (k_upto (k_min mn) K (i + 1))) := hD
                refine lv_iinc (v := (nI (i + 1))) (lv' := [(1, .int (nI (i + 1))), (0, .ref o)]) hx hb dX2_minuteOn_141 hl (k := 1) rfl (nI_1 i) (by decide) rfl (fun ls hl => ?_)
                refine lv_goto (tgt := 2) hx hb dX2_minuteOn_144 (by decide) ?_
                exact ih (i + 1) (by omega) _ _ _ hP hD hS (lv_sub hl [1, 0] rfl)
            · refine lv_aload_n hx hb dX2_minuteOn_107 rfl (lv_at hl 0 rfl) ?_
              refine lv_iload_n hx hb dX2_minuteOn_108 rfl (lv_at hl 1 rfl) ?_
              refine lv_iconst (v := 3) hx hb dX2_minuteOn_109 (by decide) ?_
              refine lv_iconst (v := 0) hx hb dX2_minuteOn_110 (by decide) ?_
              refine lv_aload_n hx hb dX2_minuteOn_111 rfl (lv_at hl 0 rfl) ?_
              refine lv_iload_n hx hb dX2_minuteOn_112 rfl (lv_at hl 1 rfl) ?_
              refine lv_iconst (v := 3) hx hb dX2_minuteOn_113 (by decide) ?_
              have sp := cu_sp.all (W0 := (cu_mw C o r q th (nI N) mn (va_up (k_upto (k_min mn) K i) i (upd X 2 ((X 2) + (-1)))))) (W1 := (cu_mw C o r q th (nI N) mn (va_up (k_upto (k_min mn) K i) i (upd X 2 ((X 2) + (-1)))))) rfl
              refine cu_callI (va_runV (As := [.int (nI i), .int 3]) (rest := [.int 0, .int 3, .int (nI i), .ref o]) ⟨hx, hb, hml, hown, hts⟩ ((m_X2_sh l D C o r q th N hN mn (va_up (k_upto (k_min mn) K i) i (upd X 2 ((X 2) + (-1)))) i 3 hi (by decide) (X 3) ((congrFun (va_up_self (k_upto (k_min mn) K i) i (upd X 2 ((X 2) + (-1)))) 3).trans rfl)) H.size) (cwV 2 hts gX2_minuteOn_X2_sh rfl rfl rfl (by decide +kernel) ⟨Nat.le_of_ble_eq_true rfl, Nat.le_of_ble_eq_true rfl⟩) (cu_preV (ci := 2) sp hG hP hD rfl rfl) rfl rfl hl.1 rfl (lv_room (Nat.le_of_ble_eq_true rfl)) dX2_minuteOn_114 ⟨Nat.le_of_ble_eq_true rfl, Nat.le_of_ble_eq_true rfl⟩) sp hP hD hS hA (fun H locs hP hD hS => ?_)
              have hP : va_P D vwCl (cu_mw C o r q th (nI N) mn (va_up (k_upto (k_min mn) K i) i (upd X 2 ((X 2) + (-1))))) H := hP
              have hD : va_D A (cu_mw C o r q th (nI N) mn (va_up (k_upto (k_min mn) K i) i (upd X 2 ((X 2) + (-1))))) := hD
              refine lv_iconst (v := 1) hx hb dX2_minuteOn_117 (by decide) ?_
              refine lv_isub hx hb dX2_minuteOn_118 ?_
              refine va_mmax hx hb (hml.trans hl.1.symm) hown (hts (.methodLink RX2 85 Lib.Math.max.name) (by decide +kernel)) (hts (.static Lib.Math.max.name) (by decide +kernel)) (hts (.initialized "java/lang/Math") (by decide +kernel)) (hts (.code Lib.Math.max.name Lib.Math.max.code 2 (some .int)) (by decide +kernel)) (Nat.le_of_ble_eq_true rfl) (Nat.le_of_ble_eq_true rfl) (Nat.zero_le _) (Nat.zero_le _) dX2_minuteOn_119 ?_
              have sp := cu_sp.all (W0 := (cu_mw C o r q th (nI N) mn (va_up (k_upto (k_min mn) K i) i (upd X 2 ((X 2) + (-1)))))) (W1 := (cu_mw C o r q th (nI N) mn (va_up (k_upto (k_min mn) K i) i (upd (upd X 2 ((X 2) + (-1))) 3 (if 0 < ((X 3) - 1) then ((X 3) - 1) else 0))))) cu_mw_fst
              refine cu_callV (va_runV (As := [.int (nI i), .int 3, .int (if 0 < ((X 3) - 1) then ((X 3) - 1) else 0)]) (rest := []) ⟨hx, hb, hml, hown, hts⟩ ((m_X2_put l D C o r q th N hN mn (va_up (k_upto (k_min mn) K i) i (upd X 2 ((X 2) + (-1)))) i 3 hi (by decide) (if 0 < ((X 3) - 1) then ((X 3) - 1) else 0) (va_up (k_upto (k_min mn) K i) i (upd (upd X 2 ((X 2) + (-1))) 3 (if 0 < ((X 3) - 1) then ((X 3) - 1) else 0))) (by rw [va_up_self, bx_uu])) H.size) (cwV 3 hts gX2_minuteOn_X2_put rfl rfl rfl (by decide +kernel) ⟨Nat.le_of_ble_eq_true rfl, Nat.le_of_ble_eq_true rfl⟩) (cu_preV (ci := 2) sp hG hP hD rfl rfl) rfl rfl hl.1 rfl (lv_room (Nat.le_of_ble_eq_true rfl)) dX2_minuteOn_122 ⟨Nat.le_of_ble_eq_true rfl, Nat.le_of_ble_eq_true rfl⟩) sp hP hD hS hA (fun H locs hP hD hS => ?_)
              have hP : va_P D vwCl (cu_mw C o r q th (nI N) mn (va_up (k_upto (k_min mn) K i) i (upd (upd X 2 ((X 2) + (-1))) 3 (if 0 < ((X 3) - 1) then ((X 3) - 1) else 0)))) H := hP
              have hD : va_D A (cu_mw C o r q th (nI N) mn (va_up (k_upto (k_min mn) K i) i (upd (upd X 2 ((X 2) + (-1))) 3 (if 0 < ((X 3) - 1) then ((X 3) - 1) else 0)))) := hD
              refine lv_aload_n hx hb dX2_minuteOn_125 rfl (lv_at hl 0 rfl) ?_
              refine lv_iload_n hx hb dX2_minuteOn_126 rfl (lv_at hl 1 rfl) ?_
              refine lv_iconst (v := 2) hx hb dX2_minuteOn_127 (by decide) ?_
              have sp := cu_sp.all (W0 := (cu_mw C o r q th (nI N) mn (va_up (k_upto (k_min mn) K i) i (upd (upd X 2 ((X 2) + (-1))) 3 (if 0 < ((X 3) - 1) then ((X 3) - 1) else 0))))) (W1 := (cu_mw C o r q th (nI N) mn (va_up (k_upto (k_min mn) K i) i (upd (upd X 2 ((X 2) + (-1))) 3 (if 0 < ((X 3) - 1) then ((X 3) - 1) else 0))))) rfl
              refine cu_callI (va_runV (As := [.int (nI i), .int 2]) (rest := []) ⟨hx, hb, hml, hown, hts⟩ ((m_X2_sh l D C o r q th N hN mn (va_up (k_upto (k_min mn) K i) i (upd (upd X 2 ((X 2) + (-1))) 3 (if 0 < ((X 3) - 1) then ((X 3) - 1) else 0))) i 2 hi (by decide) ((X 2) + (-1)) ((congrFun (va_up_self (k_upto (k_min mn) K i) i (upd (upd X 2 ((X 2) + (-1))) 3 (if 0 < ((X 3) - 1) then ((X 3) - 1) else 0))) 2).trans rfl)) H.size) (cwV 2 hts gX2_minuteOn_X2_sh rfl rfl rfl (by decide +kernel) ⟨Nat.le_of_ble_eq_true rfl, Nat.le_of_ble_eq_true rfl⟩) (cu_preV (ci := 2) sp hG hP hD rfl rfl) rfl rfl hl.1 rfl (lv_room (Nat.le_of_ble_eq_true rfl)) dX2_minuteOn_128 ⟨Nat.le_of_ble_eq_true rfl, Nat.le_of_ble_eq_true rfl⟩) sp hP hD hS hA (fun H locs hP hD hS => ?_)
              have hP : va_P D vwCl (cu_mw C o r q th (nI N) mn (va_up (k_upto (k_min mn) K i) i (upd (upd X 2 ((X 2) + (-1))) 3 (if 0 < ((X 3) - 1) then ((X 3) - 1) else 0)))) H := hP
              have hD : va_D A (cu_mw C o r q th (nI N) mn (va_up (k_upto (k_min mn) K i) i (upd (upd X 2 ((X 2) + (-1))) 3 (if 0 < ((X 3) - 1) then ((X 3) - 1) else 0)))) := hD
              refine lv_if_ne (tgt := 141) hx hb dX2_minuteOn_131 (by decide) (fun c_131 => ?_) (fun c_131 => ?_)
              · have eM : (upd (upd X 2 ((X 2) + (-1))) 3 (if 0 < ((X 3) - 1) then ((X 3) - 1) else 0)) = k_min mn (K i) := by
                  unfold k_min
                  rw [if_neg c_24, ← eX, k_wear_M (k_ok_2 hkX h5X) (k_ok_3 hkX)]
                  simp only [if_pos c_104, if_neg c_131]
                rw [eM, k_upto_s] at hP hD
                have hP : va_P D vwCl (cu_mw C o r q th (nI N) mn (k_upto (k_min mn) K (i + 1))) H := hP
                have hD : va_D A (cu_mw C o r q th (nI N) mn (k_upto (k_min mn) K (i + 1))) := hD
                refine lv_iinc (v := (nI (i + 1))) (lv' := [(1, .int (nI (i + 1))), (0, .ref o)]) hx hb dX2_minuteOn_141 hl (k := 1) rfl (nI_1 i) (by decide) rfl (fun ls hl => ?_)
                refine lv_goto (tgt := 2) hx hb dX2_minuteOn_144 (by decide) ?_
                exact ih (i + 1) (by omega) _ _ _ hP hD hS (lv_sub hl [1, 0] rfl)
              · refine lv_aload_n hx hb dX2_minuteOn_134 rfl (lv_at hl 0 rfl) ?_
                refine lv_iload_n hx hb dX2_minuteOn_135 rfl (lv_at hl 1 rfl) ?_
                refine lv_iconst (v := 5) hx hb dX2_minuteOn_136 (by decide) ?_
                refine lv_iconst (v := 0) hx hb dX2_minuteOn_137 (by decide) ?_
                have sp := cu_sp.all (W0 := (cu_mw C o r q th (nI N) mn (va_up (k_upto (k_min mn) K i) i (upd (upd X 2 ((X 2) + (-1))) 3 (if 0 < ((X 3) - 1) then ((X 3) - 1) else 0))))) (W1 := (cu_mw C o r q th (nI N) mn (va_up (k_upto (k_min mn) K i) i (upd (upd (upd X 2 ((X 2) + (-1))) 3 (if 0 < ((X 3) - 1) then ((X 3) - 1) else 0)) 5 0)))) cu_mw_fst
                refine cu_callV (va_runV (As := [.int (nI i), .int 5, .int 0]) (rest := []) ⟨hx, hb, hml, hown, hts⟩ ((m_X2_put l D C o r q th N hN mn (va_up (k_upto (k_min mn) K i) i (upd (upd X 2 ((X 2) + (-1))) 3 (if 0 < ((X 3) - 1) then ((X 3) - 1) else 0))) i 5 hi (by decide) 0 (va_up (k_upto (k_min mn) K i) i (upd (upd (upd X 2 ((X 2) + (-1))) 3 (if 0 < ((X 3) - 1) then ((X 3) - 1) else 0)) 5 0)) (by rw [va_up_self, bx_uu])) H.size) (cwV 3 hts gX2_minuteOn_X2_put rfl rfl rfl (by decide +kernel) ⟨Nat.le_of_ble_eq_true rfl, Nat.le_of_ble_eq_true rfl⟩) (cu_preV (ci := 2) sp hG hP hD rfl rfl) rfl rfl hl.1 rfl (lv_room (Nat.le_of_ble_eq_true rfl)) dX2_minuteOn_138 ⟨Nat.le_of_ble_eq_true rfl, Nat.le_of_ble_eq_true rfl⟩) sp hP hD hS hA (fun H locs hP hD hS => ?_)
                have hP : va_P D vwCl (cu_mw C o r q th (nI N) mn (va_up (k_upto (k_min mn) K i) i (upd (upd (upd X 2 ((X 2) + (-1))) 3 (if 0 < ((X 3) - 1) then ((X 3) - 1) else 0)) 5 0))) H := hP
                have hD : va_D A (cu_mw C o r q th (nI N) mn (va_up (k_upto (k_min mn) K i) i (upd (upd (upd X 2 ((X 2) + (-1))) 3 (if 0 < ((X 3) - 1) then ((X 3) - 1) else 0)) 5 0))) := hD
                have eM : (upd (upd (upd X 2 ((X 2) + (-1))) 3 (if 0 < ((X 3) - 1) then ((X 3) - 1) else 0)) 5 0) = k_min mn (K i) := by
                  unfold k_min
                  rw [if_neg c_24, ← eX, k_wear_M (k_ok_2 hkX h5X) (k_ok_3 hkX)]
                  simp only [if_pos c_104, if_pos c_131]
                rw [eM, k_upto_s] at hP hD
                have hP : va_P D vwCl (cu_mw C o r q th (nI N) mn (k_upto (k_min mn) K (i + 1))) H := hP
                have hD : va_D A (cu_mw C o r q th (nI N) mn (k_upto (k_min mn) K (i + 1))) := hD
                refine lv_iinc (v := (nI (i + 1))) (lv' := [(1, .int (nI (i + 1))), (0, .ref o)]) hx hb dX2_minuteOn_141 hl (k := 1) rfl (nI_1 i) (by decide) rfl (fun ls hl => ?_)
                refine lv_goto (tgt := 2) hx hb dX2_minuteOn_144 (by decide) ?_
                exact ih (i + 1) (by omega) _ _ _ hP hD hS (lv_sub hl [1, 0] rfl)
          | succ k ih =>
            intro X h0 hj2 hr hc hf H locs ls hP hD hS hl
            refine lv_aload_n hx hb dX2_minuteOn_41 rfl (lv_at hl 0 rfl) ?_
            refine lv_iload_n hx hb dX2_minuteOn_42 rfl (lv_at hl 1 rfl) ?_
            refine lv_iconst (v := 1) hx hb dX2_minuteOn_43 (by decide) ?_
            have sp := cu_sp.all (W0 := (cu_mw C o r q th (nI N) mn (va_up (k_upto (k_min mn) K i) i X))) (W1 := (cu_mw C o r q th (nI N) mn (va_up (k_upto (k_min mn) K i) i X))) rfl
            refine cu_callI (va_runV (As := [.int (nI i), .int 1]) (rest := []) ⟨hx, hb, hml, hown, hts⟩ ((m_X2_sh l D C o r q th N hN mn (va_up (k_upto (k_min mn) K i) i X) i 1 hi (by decide) (X 1) ((congrFun (va_up_self (k_upto (k_min mn) K i) i X) 1).trans rfl)) H.size) (cwV 2 hts gX2_minuteOn_X2_sh rfl rfl rfl (by decide +kernel) ⟨Nat.le_of_ble_eq_true rfl, Nat.le_of_ble_eq_true rfl⟩) (cu_preV (ci := 2) sp hG hP hD rfl rfl) rfl rfl hl.1 rfl (lv_room (Nat.le_of_ble_eq_true rfl)) dX2_minuteOn_44 ⟨Nat.le_of_ble_eq_true rfl, Nat.le_of_ble_eq_true rfl⟩) sp hP hD hS hA (fun H locs hP hD hS => ?_)
            have hP : va_P D vwCl (cu_mw C o r q th (nI N) mn (va_up (k_upto (k_min mn) K i) i X)) H := hP
            have hD : va_D A (cu_mw C o r q th (nI N) mn (va_up (k_upto (k_min mn) K i) i X)) := hD
            refine lv_sipush (v := 900) hx hb dX2_minuteOn_47 (by decide) ?_
            refine lv_icmp_lt (tgt := 88) hx hb dX2_minuteOn_50 (by decide) (fun c_50 => absurd ((k_loop_lt h0 hj2).mp c_50) (by omega)) (fun c_50 => ?_)
            refine lv_aload_n hx hb dX2_minuteOn_53 rfl (lv_at hl 0 rfl) ?_
            refine lv_iload_n hx hb dX2_minuteOn_54 rfl (lv_at hl 1 rfl) ?_
            refine lv_iconst (v := 1) hx hb dX2_minuteOn_55 (by decide) ?_
            refine lv_sipush (v := -900) hx hb dX2_minuteOn_56 (by decide) ?_
            have sp := cu_sp.all (W0 := (cu_mw C o r q th (nI N) mn (va_up (k_upto (k_min mn) K i) i X))) (W1 := (cu_mw C o r q th (nI N) mn (va_up (k_upto (k_min mn) K i) i (upd X 1 ((X 1) + (-900)))))) cu_mw_fst
            refine cu_callV (va_runV (As := [.int (nI i), .int 1, .int (-900)]) (rest := []) ⟨hx, hb, hml, hown, hts⟩ ((m_X2_add l D C o r q th N hN mn (va_up (k_upto (k_min mn) K i) i X) i 1 hi (by decide) (-900) (X 1) ((congrFun (va_up_self (k_upto (k_min mn) K i) i X) 1).trans rfl) (va_up (k_upto (k_min mn) K i) i (upd X 1 ((X 1) + (-900)))) (by rw [va_up_self, bx_uu])) H.size) (cwV 3 hts gX2_minuteOn_X2_add rfl rfl rfl (by decide +kernel) ⟨Nat.le_of_ble_eq_true rfl, Nat.le_of_ble_eq_true rfl⟩) (cu_preV (ci := 2) sp hG hP hD rfl rfl) rfl rfl hl.1 rfl (lv_room (Nat.le_of_ble_eq_true rfl)) dX2_minuteOn_59 ⟨Nat.le_of_ble_eq_true rfl, Nat.le_of_ble_eq_true rfl⟩) sp hP hD hS hA (fun H locs hP hD hS => ?_)
            have hP : va_P D vwCl (cu_mw C o r q th (nI N) mn (va_up (k_upto (k_min mn) K i) i (upd X 1 ((X 1) + (-900))))) H := hP
            have hD : va_D A (cu_mw C o r q th (nI N) mn (va_up (k_upto (k_min mn) K i) i (upd X 1 ((X 1) + (-900))))) := hD
            refine lv_aload_n hx hb dX2_minuteOn_62 rfl (lv_at hl 0 rfl) ?_
            refine lv_iload_n hx hb dX2_minuteOn_63 rfl (lv_at hl 1 rfl) ?_
            refine lv_iconst (v := 0) hx hb dX2_minuteOn_64 (by decide) ?_
            refine lv_aload_n hx hb dX2_minuteOn_65 rfl (lv_at hl 0 rfl) ?_
            refine lv_iload_n hx hb dX2_minuteOn_66 rfl (lv_at hl 1 rfl) ?_
            refine lv_iconst (v := 0) hx hb dX2_minuteOn_67 (by decide) ?_
            have sp := cu_sp.all (W0 := (cu_mw C o r q th (nI N) mn (va_up (k_upto (k_min mn) K i) i (upd X 1 ((X 1) + (-900)))))) (W1 := (cu_mw C o r q th (nI N) mn (va_up (k_upto (k_min mn) K i) i (upd X 1 ((X 1) + (-900)))))) rfl
            refine cu_callI (va_runV (As := [.int (nI i), .int 0]) (rest := [.int 0, .int (nI i), .ref o]) ⟨hx, hb, hml, hown, hts⟩ ((m_X2_sh l D C o r q th N hN mn (va_up (k_upto (k_min mn) K i) i (upd X 1 ((X 1) + (-900)))) i 0 hi (by decide) (X 0) ((congrFun (va_up_self (k_upto (k_min mn) K i) i (upd X 1 ((X 1) + (-900)))) 0).trans rfl)) H.size) (cwV 2 hts gX2_minuteOn_X2_sh rfl rfl rfl (by decide +kernel) ⟨Nat.le_of_ble_eq_true rfl, Nat.le_of_ble_eq_true rfl⟩) (cu_preV (ci := 2) sp hG hP hD rfl rfl) rfl rfl hl.1 rfl (lv_room (Nat.le_of_ble_eq_true rfl)) dX2_minuteOn_68 ⟨Nat.le_of_ble_eq_true rfl, Nat.le_of_ble_eq_true rfl⟩) sp hP hD hS hA (fun H locs hP hD hS => ?_)
            have hP : va_P D vwCl (cu_mw C o r q th (nI N) mn (va_up (k_upto (k_min mn) K i) i (upd X 1 ((X 1) + (-900))))) H := hP
            have hD : va_D A (cu_mw C o r q th (nI N) mn (va_up (k_upto (k_min mn) K i) i (upd X 1 ((X 1) + (-900))))) := hD
            refine lv_iconst (v := 1) hx hb dX2_minuteOn_71 (by decide) ?_
            refine lv_iadd hx hb dX2_minuteOn_72 ?_
            refine lv_sipush (v := 720) hx hb dX2_minuteOn_73 (by decide) ?_
            refine lv_irem hx hb dX2_minuteOn_76 (by decide) ?_
            have sp := cu_sp.all (W0 := (cu_mw C o r q th (nI N) mn (va_up (k_upto (k_min mn) K i) i (upd X 1 ((X 1) + (-900)))))) (W1 := (cu_mw C o r q th (nI N) mn (va_up (k_upto (k_min mn) K i) i (upd (upd X 1 ((X 1) + (-900))) 0 (((X 0) + 1) - ((X 0) + 1) / 720 * 720))))) cu_mw_fst
            refine cu_callV (va_runV (As := [.int (nI i), .int 0, .int (((X 0) + 1) - ((X 0) + 1) / 720 * 720)]) (rest := []) ⟨hx, hb, hml, hown, hts⟩ ((m_X2_put l D C o r q th N hN mn (va_up (k_upto (k_min mn) K i) i (upd X 1 ((X 1) + (-900)))) i 0 hi (by decide) (((X 0) + 1) - ((X 0) + 1) / 720 * 720) (va_up (k_upto (k_min mn) K i) i (upd (upd X 1 ((X 1) + (-900))) 0 (((X 0) + 1) - ((X 0) + 1) / 720 * 720))) (by rw [va_up_self, bx_uu])) H.size) (cwV 3 hts gX2_minuteOn_X2_put rfl rfl rfl (by decide +kernel) ⟨Nat.le_of_ble_eq_true rfl, Nat.le_of_ble_eq_true rfl⟩) (cu_preV (ci := 2) sp hG hP hD rfl rfl) rfl rfl hl.1 rfl (lv_room (Nat.le_of_ble_eq_true rfl)) dX2_minuteOn_77 ⟨Nat.le_of_ble_eq_true rfl, Nat.le_of_ble_eq_true rfl⟩) sp hP hD hS hA (fun H locs hP hD hS => ?_)
            have hP : va_P D vwCl (cu_mw C o r q th (nI N) mn (va_up (k_upto (k_min mn) K i) i (upd (upd X 1 ((X 1) + (-900))) 0 (((X 0) + 1) - ((X 0) + 1) / 720 * 720)))) H := hP
            have hD : va_D A (cu_mw C o r q th (nI N) mn (va_up (k_upto (k_min mn) K i) i (upd (upd X 1 ((X 1) + (-900))) 0 (((X 0) + 1) - ((X 0) + 1) / 720 * 720)))) := hD
            refine lv_aload_n hx hb dX2_minuteOn_80 rfl (lv_at hl 0 rfl) ?_
            refine lv_iload_n hx hb dX2_minuteOn_81 rfl (lv_at hl 1 rfl) ?_
            have sp := cu_sp.all (W0 := (cu_mw C o r q th (nI N) mn (va_up (k_upto (k_min mn) K i) i (upd (upd X 1 ((X 1) + (-900))) 0 (((X 0) + 1) - ((X 0) + 1) / 720 * 720))))) (W1 := (cu_mw C o r q th (nI N) mn (va_up (k_upto (k_min mn) K i) i (k_call (upd (upd X 1 ((X 1) + (-900))) 0 (((X 0) + 1) - ((X 0) + 1) / 720 * 720)))))) cu_mw_fst
            refine cu_callV (va_runV (As := [.int (nI i)]) (rest := []) ⟨hx, hb, hml, hown, hts⟩ ((m_X2_call l D C o r q th N hN mn (va_up (k_upto (k_min mn) K i) i (upd (upd X 1 ((X 1) + (-900))) 0 (((X 0) + 1) - ((X 0) + 1) / 720 * 720))) i hi (upd (upd X 1 ((X 1) + (-900))) 0 (((X 0) + 1) - ((X 0) + 1) / 720 * 720)) (va_up_self (k_upto (k_min mn) K i) i (upd (upd X 1 ((X 1) + (-900))) 0 (((X 0) + 1) - ((X 0) + 1) / 720 * 720)))  (k_okc_body hc) (va_up (k_upto (k_min mn) K i) i (k_call (upd (upd X 1 ((X 1) + (-900))) 0 (((X 0) + 1) - ((X 0) + 1) / 720 * 720)))) (by rw [bx_uu])) H.size) (cwV 1 hts gX2_minuteOn_X2_call rfl rfl rfl (by decide +kernel) ⟨Nat.le_of_ble_eq_true rfl, Nat.le_of_ble_eq_true rfl⟩) (cu_preV (ci := 2) sp hG hP hD rfl rfl) rfl rfl hl.1 rfl (lv_room (Nat.le_of_ble_eq_true rfl)) dX2_minuteOn_82 ⟨Nat.le_of_ble_eq_true rfl, Nat.le_of_ble_eq_true rfl⟩) sp hP hD hS hA (fun H locs hP hD hS => ?_)
            have hP : va_P D vwCl (cu_mw C o r q th (nI N) mn (va_up (k_upto (k_min mn) K i) i (k_call (upd (upd X 1 ((X 1) + (-900))) 0 (((X 0) + 1) - ((X 0) + 1) / 720 * 720))))) H := hP
            have hD : va_D A (cu_mw C o r q th (nI N) mn (va_up (k_upto (k_min mn) K i) i (k_call (upd (upd X 1 ((X 1) + (-900))) 0 (((X 0) + 1) - ((X 0) + 1) / 720 * 720))))) := hD
            refine lv_goto (tgt := 41) hx hb dX2_minuteOn_85 (by decide) ?_
            exact ih _ (k_loop_s h0 hj2 hr hc hf).1 (k_loop_s h0 hj2 hr hc hf).2.1 (k_loop_s h0 hj2 hr hc hf).2.2.1 (k_loop_s h0 hj2 hr hc hf).2.2.2.1 (k_loop_s h0 hj2 hr hc hf).2.2.2.2 _ _ _ hP hD hS (lv_sub hl [0, 1] rfl)
        exact loop2 _ _ q0.1 q0.2.1 q0.2.2.1 q0.2.2.2.1 q0.2.2.2.2 _ _ _ hP hD hS (lv_sub hl [0, 1] rfl)
      · refine lv_goto (tgt := 141) hx hb dX2_minuteOn_27 (by decide) ?_
        rw [k_min_5 (m := mn) c_24, k_upto_s] at hP hD
        have hP : va_P D vwCl (cu_mw C o r q th (nI N) mn (k_upto (k_min mn) K (i + 1))) H := hP
        have hD : va_D A (cu_mw C o r q th (nI N) mn (k_upto (k_min mn) K (i + 1))) := hD
        refine lv_iinc (v := (nI (i + 1))) (lv' := [(1, .int (nI (i + 1))), (0, .ref o)]) hx hb dX2_minuteOn_141 hl (k := 1) rfl (nI_1 i) (by decide) rfl (fun ls hl => ?_)
        refine lv_goto (tgt := 2) hx hb dX2_minuteOn_144 (by decide) ?_
        exact ih (i + 1) (by omega) _ _ _ hP hD hS (lv_sub hl [1, 0] rfl)
  exact loop N 0 (by omega) _ _ _ hP hD hS (lv_sub hl [1, 0] rfl)

set_option maxHeartbeats 4000000 in
set_option maxRecDepth 100000 in
theorem m_X2_minutesOn (l : Launch) (D : va_G) (C : Nat → ClassId) (o r q : Nat) (th : Int32) (N : Nat) (hN : N ≤ 10) (mn : Int32) (K : Nat → Nat → Int32) (hok : ∀ c, c < N → k_ok (K c)) (t : Nat) (ht : t ≤ 720) : cu_V l D C yX2_minutesOn wsX2_minutesOn { frames := 4, cells := 0, slots := 0, locals := 90 } [.ref o, .int (nI t)] (cu_mw C o r q th (nI N) mn K) (cu_mw C o r q th (nI N) (mn + nI t) (k_at N mn K t)) 0 0 := by
  refine cu_openV (cc := cX2_minutesOn) (maxL := 3) (own := RX2) (by decide) rfl rfl (Nat.le_of_ble_eq_true rfl) ?_
  intro p e s m args below meth c A Z H0 ls e0 hx hb hml hts hown hnm hG hP hD hS hA hl fin
  have hK := hG.1
  have hl : lv_has ls 3 [(0, .ref o), (1, .int (nI t))] := hl
  refine lv_iconst (v := 0) hx hb dX2_minutesOn_0 (by decide) ?_
  refine lv_istore_n (lv' := [(2, .int 0), (0, .ref o), (1, .int (nI t))]) hx hb dX2_minutesOn_1 rfl hl (by decide) rfl (fun ls hl => ?_)
  rw [← k_m0 mn] at hP hD
  have loop : ∀ (j : Nat), ∀ (i : Nat), i + j = t → ∀ (H : Heap) (locs : List Loc) (ls : Array Slot), va_P D vwCl (cu_mw C o r q th (nI N) (mn + nI i) (k_at N mn K i)) H → va_D A (cu_mw C o r q th (nI N) (mn + nI i) (k_at N mn K i)) → va_S A H0 H locs → lv_has ls 3 [(0, .ref o), (1, .int (nI t)), (2, .int (nI i))] → W p l e { frames := 4, cells := 0, slots := 0, locals := 90 } s m args below meth c H locs 0 0 Z (F0 m 2 ls []) := by
    intro j
    induction j with
    | zero =>
      intro i hj H locs ls hP hD hS hl
      have eN : i = t := by omega
      refine lv_iload_n hx hb dX2_minutesOn_2 rfl (lv_at hl 2 rfl) ?_
      refine lv_iload_n hx hb dX2_minutesOn_3 rfl (lv_at hl 1 rfl) ?_
      refine lv_icmp_ge (tgt := 17) hx hb dX2_minutesOn_4 (by decide) (fun c_4 => ?_) (fun c_4 => absurd (nI_le (a := t) (by omega) (by omega)) c_4)
      exact fin _ _ _ _ (by rw [eN] at hP; exact hP) hS dX2_minutesOn_17
    | succ j ih =>
      intro i hj H locs ls hP hD hS hl
      refine lv_iload_n hx hb dX2_minutesOn_2 rfl (lv_at hl 2 rfl) ?_
      refine lv_iload_n hx hb dX2_minutesOn_3 rfl (lv_at hl 1 rfl) ?_
      refine lv_icmp_ge (tgt := 17) hx hb dX2_minutesOn_4 (by decide) (fun c_4 => absurd c_4 (nI_ge (b := t) (by omega) (by omega))) (fun c_4 => ?_)
      refine lv_aload_n hx hb dX2_minutesOn_7 rfl (lv_at hl 0 rfl) ?_
      have sp := cu_sp.all (W0 := (cu_mw C o r q th (nI N) (mn + nI i) (k_at N mn K i))) (W1 := (cu_mw C o r q th (nI N) ((mn + nI i) + 1) (k_upto (k_min (mn + nI i)) (k_at N mn K i) N))) cu_mw_fst
      refine cu_callV (va_runV (As := []) (rest := []) ⟨hx, hb, hml, hown, hts⟩ ((m_X2_minuteOn l D C o r q th N hN (mn + nI i) (k_at N mn K i) (k_at_ok hok i)) H.size) (cwV 0 hts gX2_minutesOn_X2_minuteOn rfl rfl rfl (by decide +kernel) ⟨Nat.le_of_ble_eq_true rfl, Nat.le_of_ble_eq_true rfl⟩) (cu_preV (ci := 2) sp hG hP hD rfl rfl) rfl rfl hl.1 rfl (lv_room (Nat.le_of_ble_eq_true rfl)) dX2_minutesOn_8 ⟨Nat.le_of_ble_eq_true rfl, Nat.le_of_ble_eq_true rfl⟩) sp hP hD hS hA (fun H locs hP hD hS => ?_)
      have hP : va_P D vwCl (cu_mw C o r q th (nI N) ((mn + nI i) + 1) (k_upto (k_min (mn + nI i)) (k_at N mn K i) N)) H := hP
      have hD : va_D A (cu_mw C o r q th (nI N) ((mn + nI i) + 1) (k_upto (k_min (mn + nI i)) (k_at N mn K i) N)) := hD
      rw [Int32.add_assoc, nI_1] at hP hD
      have hP : va_P D vwCl (cu_mw C o r q th (nI N) (mn + nI (i + 1)) (k_at N mn K (i + 1))) H := hP
      have hD : va_D A (cu_mw C o r q th (nI N) (mn + nI (i + 1)) (k_at N mn K (i + 1))) := hD
      refine lv_iinc (v := (nI (i + 1))) (lv' := [(2, .int (nI (i + 1))), (0, .ref o), (1, .int (nI t))]) hx hb dX2_minutesOn_11 hl (k := 2) rfl (nI_1 i) (by decide) rfl (fun ls hl => ?_)
      refine lv_goto (tgt := 2) hx hb dX2_minutesOn_14 (by decide) ?_
      exact ih (i + 1) (by omega) _ _ _ hP hD hS (lv_sub hl [1, 2, 0] rfl)
  exact loop t 0 (by omega) _ _ _ hP hD hS (lv_sub hl [1, 2, 0] rfl)
