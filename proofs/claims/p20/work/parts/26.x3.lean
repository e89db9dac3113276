/-! the law's shop by hand: minutes, who goes, how far off -/
set_option maxHeartbeats 4000000 in
set_option maxRecDepth 100000 in
theorem m_X3_go (l : Launch) (D : va_G) (C : Nat → ClassId) (o r : Nat) (g : Nat → Nat) (N : Nat) (hN : N ≤ 10) (mn : Int32) (M : Nat → Nat → Int32) : cu_I l D C yX3_go wsX3_go { frames := 0, cells := 0, slots := 0, locals := 0 } [.ref o] (cu_sm C o r g N mn M) (cu_sm C o r g N mn M) (k_goSum N M) 0 0 := by
  refine cu_openI (cc := cX3_go) (maxL := 6) (ty := .int) (own := RX3) (by decide) rfl rfl (Nat.le_of_ble_eq_true rfl) ?_
  intro p e s m args below meth c A Z H0 ls e0 hx hb hml hts hown hnm hG hP hD hS hA hl fin
  have hK := hG.1
  have hl : lv_has ls 6 [(0, .ref o)] := hl
  have hiX2 : ∀ w ∈ wsX20, w ∈ wsX3_go := by decide +kernel
  have hiX3 : ∀ w ∈ wsX30, w ∈ wsX3_go := by decide +kernel
  refine lv_iconst (v := 0) hx hb dX3_go_0 (by decide) ?_
  refine lv_istore_n (lv' := [(1, .int 0), (0, .ref o)]) hx hb dX3_go_1 rfl hl (by decide) rfl (fun ls hl => ?_)
  refine lv_aload_n hx hb dX3_go_2 rfl (lv_at hl 1 rfl) ?_
  obtain ⟨qa, ha⟩ := List.getElem?_of_mem (cu_sp.mem (cu_sp.rdm (cu_sm_o (C := C) (o := o) (r := r) (g := g) (N := N) (mn := mn) (M := M))))
  refine va_get (D := D) (ci := 3) (v := .ref r) (C := RX3) (T := TX3) (N := 2) hx hb hts hiX3 hown hK hP qa ha rfl 0 (by decide) (hts (.fieldLink RX3 9 "CuckooShopLaw$Sim" "clocks" "[LCuckooShopLaw$Clock;") (by decide +kernel)) (fun _ h9 => h9) rfl dX3_go_3 ?_
  refine lv_astore_n (lv' := [(2, .ref r), (1, .int 0), (0, .ref o)]) hx hb dX3_go_6 rfl hl (by decide) rfl (fun ls hl => ?_)
  refine lv_aload_n hx hb dX3_go_7 rfl (lv_at hl 0 rfl) ?_
  obtain ⟨qa, ha⟩ := List.getElem?_of_mem (cu_sp.mem (cu_sp.rdm (cu_sm_r (C := C) (o := o) (r := r) (g := g) (N := N) (mn := mn) (M := M))))
  refine va_alen (v := nI N) hx hb hK hP qa 2 ha rfl rfl dX3_go_8 ?_
  refine lv_istore_n (lv' := [(3, .int (nI N)), (2, .ref r), (1, .int 0), (0, .ref o)]) hx hb dX3_go_9 rfl hl (by decide) rfl (fun ls hl => ?_)
  refine lv_iconst (v := 0) hx hb dX3_go_10 (by decide) ?_
  refine lv_istore (lv' := [(4, .int 0), (3, .int (nI N)), (2, .ref r), (1, .int 0), (0, .ref o)]) hx hb dX3_go_11 hl (by decide) rfl (fun ls hl => ?_)
  have loop : ∀ (j : Nat), ∀ (i : Nat) (x1 : Int32), i + j = N → x1 = k_sum (fun c => if M c 5 = 0 then 0 else 1) i → ∀ (H : Heap) (locs : List Loc) (ls : Array Slot), va_P D vwCl (cu_sm C o r g N mn M) H → va_D A (cu_sm C o r g N mn M) → va_S A H0 H locs → lv_has ls 6 [(0, .ref o), (1, .int x1), (2, .ref r), (3, .int (nI N)), (4, .int (nI i))] → W p l e { frames := 0, cells := 0, slots := 0, locals := 0 } s m args below meth c H locs 0 0 Z (F0 m 13 ls []) := by
    intro j
    induction j with
    | zero =>
      intro i x1 hj hx1 H locs ls hP hD hS hl
      have eN : i = N := by omega
      refine lv_iload hx hb dX3_go_13 (lv_at hl 4 rfl) ?_
      refine lv_iload_n hx hb dX3_go_15 rfl (lv_at hl 3 rfl) ?_
      refine lv_icmp_ge (tgt := 47) hx hb dX3_go_16 (by decide) (fun c_16 => ?_) (fun c_16 => absurd (nI_le (a := N) (by omega) (by omega)) c_16)
      refine lv_iload_n hx hb dX3_go_47 rfl (lv_at hl 1 rfl) ?_
      exact fin _ _ _ _ _ rfl (by rw [hx1, eN]; rfl) hP hS dX3_go_48
    | succ j ih =>
      intro i x1 hj hx1 H locs ls hP hD hS hl
      have hi : i < N := by omega
      refine lv_iload hx hb dX3_go_13 (lv_at hl 4 rfl) ?_
      refine lv_iload_n hx hb dX3_go_15 rfl (lv_at hl 3 rfl) ?_
      refine lv_icmp_ge (tgt := 47) hx hb dX3_go_16 (by decide) (fun c_16 => absurd c_16 (nI_ge (b := N) (by omega) (by omega))) (fun c_16 => ?_)
      refine lv_aload_n hx hb dX3_go_19 rfl (lv_at hl 2 rfl) ?_
      refine lv_iload hx hb dX3_go_20 (lv_at hl 4 rfl) ?_
      obtain ⟨qa, ha⟩ := List.getElem?_of_mem (cu_sp.mem (cu_sp.rdm (cu_sm_r (C := C) (o := o) (r := r) (g := g) (N := N) (mn := mn) (M := M))))
      refine va_aldq hx hb hK hP qa 2 ha rfl (vp_in_nI hi (by omega)) dX3_go_22 ?_
      rw [nI_clamp (show i < 2 ^ 31 by omega)]
      refine W.eq (g2 := F0 m 23 ls [.ref (g i)]) rfl ?_
      refine lv_astore (lv' := [(5, .ref (g i)), (0, .ref o), (1, .int x1), (2, .ref r), (3, .int (nI N)), (4, .int (nI i))]) hx hb dX3_go_23 hl (by decide) rfl (fun ls hl => ?_)
      refine lv_iload_n hx hb dX3_go_25 rfl (lv_at hl 2 rfl) ?_
      have J1 : ∀ b1 : Int32, b1 = (if M i 5 = 0 then 0 else 1) → W p l e { frames := 0, cells := 0, slots := 0, locals := 0 } s m args below meth c H locs 0 0 Z (F0 m 39 ls [.int b1, .int x1]) := by
        intro b1 eb1
        refine lv_iadd hx hb dX3_go_39 ?_
        refine lv_istore_n (lv' := [(1, .int (x1 + b1)), (5, .ref (g i)), (0, .ref o), (2, .ref r), (3, .int (nI N)), (4, .int (nI i))]) hx hb dX3_go_40 rfl hl (by decide) rfl (fun ls hl => ?_)
        refine lv_iinc (v := (nI (i + 1))) (lv' := [(4, .int (nI (i + 1))), (1, .int (x1 + b1)), (5, .ref (g i)), (0, .ref o), (2, .ref r), (3, .int (nI N))]) hx hb dX3_go_41 hl (k := 5) rfl (nI_1 i) (by decide) rfl (fun ls hl => ?_)
        refine lv_goto (tgt := 13) hx hb dX3_go_44 (by decide) ?_
        exact ih (i + 1) _ (by omega) (by rw [hx1, eb1]; rfl) _ _ _ hP hD hS (lv_sub hl [3, 1, 4, 5, 0] rfl)
      refine lv_aload hx hb dX3_go_26 (lv_at hl 0 rfl) ?_
      obtain ⟨qa, ha⟩ := List.getElem?_of_mem (cu_sp.mem (cu_sm_rd (C := C) (o := o) (r := r) (g := g) (N := N) (mn := mn) (M := M) (i := i) (X := (M i)) hi rfl))
      refine va_get (D := D) (ci := 2) (v := .int ((M i) 5)) (C := RX2) (T := TX2) (N := 14) hx hb hts hiX2 hown hK hP qa ha rfl 8 (by decide) (hts (.fieldLink RX3 38 "CuckooShopLaw$Clock" "goes" "Z") (by decide +kernel)) (fun _ h9 => h9) rfl dX3_go_28 ?_
      refine lv_if_eq (tgt := 38) hx hb dX3_go_31 (by decide) (fun c_31 => ?_) (fun c_31 => ?_)
      · refine lv_iconst (v := 0) hx hb dX3_go_38 (by decide) ?_
        exact J1 _ (by simp only [if_neg c_16, if_pos c_31, reduceIte])
      · refine lv_iconst (v := 1) hx hb dX3_go_34 (by decide) ?_
        refine lv_goto (tgt := 39) hx hb dX3_go_35 (by decide) ?_
        exact J1 _ (by simp only [if_neg c_16, if_neg c_31, reduceIte])
  exact loop N 0 0 (by omega) rfl _ _ _ hP hD hS (lv_sub hl [4, 3, 2, 1, 0] rfl)

set_option maxHeartbeats 4000000 in
set_option maxRecDepth 100000 in
theorem m_X3_off (l : Launch) (D : va_G) (C : Nat → ClassId) (o r : Nat) (g : Nat → Nat) (N : Nat) (hN : N ≤ 10) (mn : Int32) (M : Nat → Nat → Int32) (hok : ∀ c, c < N → k_okc (M c)) (hm : 0 ≤ mn.toInt) : cu_I l D C yX3_off wsX3_off { frames := 1, cells := 0, slots := 0, locals := 22 } [.ref o] (cu_sm C o r g N mn M) (cu_sm C o r g N mn M) (k_offs N M mn) 0 0 := by
  refine cu_openI (cc := cX3_off) (maxL := 6) (ty := .int) (own := RX3) (by decide) rfl rfl (Nat.le_of_ble_eq_true rfl) ?_
  intro p e s m args below meth c A Z H0 ls e0 hx hb hml hts hown hnm hG hP hD hS hA hl fin
  have hK := hG.1
  have hl : lv_has ls 6 [(0, .ref o)] := hl
  have hiX3 : ∀ w ∈ wsX30, w ∈ wsX3_off := by decide +kernel
  refine lv_iconst (v := 0) hx hb dX3_off_0 (by decide) ?_
  refine lv_istore_n (lv' := [(1, .int 0), (0, .ref o)]) hx hb dX3_off_1 rfl hl (by decide) rfl (fun ls hl => ?_)
  refine lv_aload_n hx hb dX3_off_2 rfl (lv_at hl 1 rfl) ?_
  obtain ⟨qa, ha⟩ := List.getElem?_of_mem (cu_sp.mem (cu_sp.rdm (cu_sm_o (C := C) (o := o) (r := r) (g := g) (N := N) (mn := mn) (M := M))))
  refine va_get (D := D) (ci := 3) (v := .ref r) (C := RX3) (T := TX3) (N := 2) hx hb hts hiX3 hown hK hP qa ha rfl 0 (by decide) (hts (.fieldLink RX3 9 "CuckooShopLaw$Sim" "clocks" "[LCuckooShopLaw$Clock;") (by decide +kernel)) (fun _ h9 => h9) rfl dX3_off_3 ?_
  refine lv_astore_n (lv' := [(2, .ref r), (1, .int 0), (0, .ref o)]) hx hb dX3_off_6 rfl hl (by decide) rfl (fun ls hl => ?_)
  refine lv_aload_n hx hb dX3_off_7 rfl (lv_at hl 0 rfl) ?_
  obtain ⟨qa, ha⟩ := List.getElem?_of_mem (cu_sp.mem (cu_sp.rdm (cu_sm_r (C := C) (o := o) (r := r) (g := g) (N := N) (mn := mn) (M := M))))
  refine va_alen (v := nI N) hx hb hK hP qa 2 ha rfl rfl dX3_off_8 ?_
  refine lv_istore_n (lv' := [(3, .int (nI N)), (2, .ref r), (1, .int 0), (0, .ref o)]) hx hb dX3_off_9 rfl hl (by decide) rfl (fun ls hl => ?_)
  refine lv_iconst (v := 0) hx hb dX3_off_10 (by decide) ?_
  refine lv_istore (lv' := [(4, .int 0), (3, .int (nI N)), (2, .ref r), (1, .int 0), (0, .ref o)]) hx hb dX3_off_11 hl (by decide) rfl (fun ls hl => ?_)
  have loop : ∀ (j : Nat), ∀ (i : Nat) (x1 : Int32), i + j = N → x1 = k_sum (fun c => k_abs (k_off (M c) mn)) i → ∀ (H : Heap) (locs : List Loc) (ls : Array Slot), va_P D vwCl (cu_sm C o r g N mn M) H → va_D A (cu_sm C o r g N mn M) → va_S A H0 H locs → lv_has ls 6 [(0, .ref o), (1, .int x1), (2, .ref r), (3, .int (nI N)), (4, .int (nI i))] → W p l e { frames := 1, cells := 0, slots := 0, locals := 22 } s m args below meth c H locs 0 0 Z (F0 m 13 ls []) := by
    intro j
    induction j with
    | zero =>
      intro i x1 hj hx1 H locs ls hP hD hS hl
      have eN : i = N := by omega
      refine lv_iload hx hb dX3_off_13 (lv_at hl 4 rfl) ?_
      refine lv_iload_n hx hb dX3_off_15 rfl (lv_at hl 3 rfl) ?_
      refine lv_icmp_ge (tgt := 46) hx hb dX3_off_16 (by decide) (fun c_16 => ?_) (fun c_16 => absurd (nI_le (a := N) (by omega) (by omega)) c_16)
      refine lv_iload_n hx hb dX3_off_46 rfl (lv_at hl 1 rfl) ?_
      exact fin _ _ _ _ _ rfl (by rw [hx1, eN]; rfl) hP hS dX3_off_47
    | succ j ih =>
      intro i x1 hj hx1 H locs ls hP hD hS hl
      have hi : i < N := by omega
      refine lv_iload hx hb dX3_off_13 (lv_at hl 4 rfl) ?_
      refine lv_iload_n hx hb dX3_off_15 rfl (lv_at hl 3 rfl) ?_
      refine lv_icmp_ge (tgt := 46) hx hb dX3_off_16 (by decide) (fun c_16 => absurd c_16 (nI_ge (b := N) (by omega) (by omega))) (fun c_16 => ?_)
      refine lv_aload_n hx hb dX3_off_19 rfl (lv_at hl 2 rfl) ?_
      refine lv_iload hx hb dX3_off_20 (lv_at hl 4 rfl) ?_
      obtain ⟨qa, ha⟩ := List.getElem?_of_mem (cu_sp.mem (cu_sp.rdm (cu_sm_r (C := C) (o := o) (r := r) (g := g) (N := N) (mn := mn) (M := M))))
      refine va_aldq hx hb hK hP qa 2 ha rfl (vp_in_nI hi (by omega)) dX3_off_22 ?_
      rw [nI_clamp (show i < 2 ^ 31 by omega)]
      refine W.eq (g2 := F0 m 23 ls [.ref (g i)]) rfl ?_
      refine lv_astore (lv' := [(5, .ref (g i)), (0, .ref o), (1, .int x1), (2, .ref r), (3, .int (nI N)), (4, .int (nI i))]) hx hb dX3_off_23 hl (by decide) rfl (fun ls hl => ?_)
      refine lv_iload_n hx hb dX3_off_25 rfl (lv_at hl 2 rfl) ?_
      refine lv_aload hx hb dX3_off_26 (lv_at hl 0 rfl) ?_
      refine lv_aload_n hx hb dX3_off_28 rfl (lv_at hl 1 rfl) ?_
      obtain ⟨qa, ha⟩ := List.getElem?_of_mem (cu_sp.mem (cu_sp.rdm (cu_sm_o (C := C) (o := o) (r := r) (g := g) (N := N) (mn := mn) (M := M))))
      refine va_get (D := D) (ci := 3) (v := .int mn) (C := RX3) (T := TX3) (N := 2) hx hb hts hiX3 hown hK hP qa ha rfl 1 (by decide) (hts (.fieldLink RX3 20 "CuckooShopLaw$Sim" "minute" "I") (by decide +kernel)) (fun _ h9 => h9) rfl dX3_off_29 ?_
      have sp := (cu_sm_rd (C := C) (o := o) (r := r) (g := g) (N := N) (mn := mn) (M := M) (i := i) (X := (M i)) hi rfl)
      refine cu_callI (va_runV (As := [.int mn]) (rest := [.int x1]) ⟨hx, hb, hml, hown, hts⟩ ((m_X2_off l D C (g i) (M i) mn (hok i hi) hm) H.size) (cwV 1 hts gX3_off_X2_off rfl rfl rfl (by decide +kernel) ⟨Nat.le_of_ble_eq_true rfl, Nat.le_of_ble_eq_true rfl⟩) (cu_preV (ci := 2) sp hG hP hD rfl rfl) rfl rfl hl.1 rfl (lv_room (Nat.le_of_ble_eq_true rfl)) dX3_off_32 ⟨Nat.le_of_ble_eq_true rfl, Nat.le_of_ble_eq_true rfl⟩) sp hP hD hS hA (fun H locs hP hD hS => ?_)
      have hP : va_P D vwCl (cu_sm C o r g N mn M) H := hP
      have hD : va_D A (cu_sm C o r g N mn M) := hD
      refine va_mabs hx hb (hml.trans hl.1.symm) hown (hts (.methodLink RX3 46 Lib.Math.abs.name) (by decide +kernel)) (hts (.static Lib.Math.abs.name) (by decide +kernel)) (hts (.initialized "java/lang/Math") (by decide +kernel)) (hts (.code Lib.Math.abs.name Lib.Math.abs.code 1 (some .int)) (by decide +kernel)) (Nat.le_of_ble_eq_true rfl) (Nat.le_of_ble_eq_true rfl) (Nat.zero_le _) (Nat.zero_le _) dX3_off_35 ?_
      refine lv_iadd hx hb dX3_off_38 ?_
      refine lv_istore_n (lv' := [(1, .int (x1 + (if 0 ≤ (k_off (M i) mn) then (k_off (M i) mn) else 0 - (k_off (M i) mn)))), (5, .ref (g i)), (0, .ref o), (2, .ref r), (3, .int (nI N)), (4, .int (nI i))]) hx hb dX3_off_39 rfl hl (by decide) rfl (fun ls hl => ?_)
      refine lv_iinc (v := (nI (i + 1))) (lv' := [(4, .int (nI (i + 1))), (1, .int (x1 + (if 0 ≤ (k_off (M i) mn) then (k_off (M i) mn) else 0 - (k_off (M i) mn)))), (5, .ref (g i)), (0, .ref o), (2, .ref r), (3, .int (nI N))]) hx hb dX3_off_40 hl (k := 5) rfl (nI_1 i) (by decide) rfl (fun ls hl => ?_)
      refine lv_goto (tgt := 13) hx hb dX3_off_43 (by decide) ?_
      exact ih (i + 1) _ (by omega) (by rw [hx1]; rfl) _ _ _ hP hD hS (lv_sub hl [3, 1, 4, 5, 0] rfl)
  exact loop N 0 0 (by omega) rfl _ _ _ hP hD hS (lv_sub hl [4, 3, 2, 1, 0] rfl)

set_option maxHeartbeats 4000000 in
set_option maxRecDepth 100000 in
theorem m_X3_pass (l : Launch) (D : va_G) (C : Nat → ClassId) (o r : Nat) (g : Nat → Nat) (N : Nat) (hN : N ≤ 10) (mn : Int32) (M : Nat → Nat → Int32) (hok : ∀ c, c < N → k_ok (M c)) : cu_I l D C yX3_pass wsX3_pass { frames := 2, cells := 0, slots := 0, locals := 46 } [.ref o] (cu_sm C o r g N mn M) (cu_sm C o r g N (mn + 1) (k_upto (k_min mn) M N)) (k_lat N mn M) 0 0 := by
  refine cu_openI (cc := cX3_pass) (maxL := 6) (ty := .int) (own := RX3) (by decide) rfl rfl (Nat.le_of_ble_eq_true rfl) ?_
  intro p e s m args below meth c A Z H0 ls e0 hx hb hml hts hown hnm hG hP hD hS hA hl fin
  have hK := hG.1
  have hl : lv_has ls 6 [(0, .ref o)] := hl
  have hiX2 : ∀ w ∈ wsX20, w ∈ wsX3_pass := by decide +kernel
  have hiX3 : ∀ w ∈ wsX30, w ∈ wsX3_pass := by decide +kernel
  refine lv_iconst (v := 0) hx hb dX3_pass_0 (by decide) ?_
  refine lv_istore_n (lv' := [(1, .int 0), (0, .ref o)]) hx hb dX3_pass_1 rfl hl (by decide) rfl (fun ls hl => ?_)
  refine lv_aload_n hx hb dX3_pass_2 rfl (lv_at hl 1 rfl) ?_
  obtain ⟨qa, ha⟩ := List.getElem?_of_mem (cu_sp.mem (cu_sp.rdm (cu_sm_o (C := C) (o := o) (r := r) (g := g) (N := N) (mn := mn) (M := M))))
  refine va_get (D := D) (ci := 3) (v := .ref r) (C := RX3) (T := TX3) (N := 2) hx hb hts hiX3 hown hK hP qa ha rfl 0 (by decide) (hts (.fieldLink RX3 9 "CuckooShopLaw$Sim" "clocks" "[LCuckooShopLaw$Clock;") (by decide +kernel)) (fun _ h9 => h9) rfl dX3_pass_3 ?_
  refine lv_astore_n (lv' := [(2, .ref r), (1, .int 0), (0, .ref o)]) hx hb dX3_pass_6 rfl hl (by decide) rfl (fun ls hl => ?_)
  refine lv_aload_n hx hb dX3_pass_7 rfl (lv_at hl 0 rfl) ?_
  obtain ⟨qa, ha⟩ := List.getElem?_of_mem (cu_sp.mem (cu_sp.rdm (cu_sm_r (C := C) (o := o) (r := r) (g := g) (N := N) (mn := mn) (M := M))))
  refine va_alen (v := nI N) hx hb hK hP qa 2 ha rfl rfl dX3_pass_8 ?_
  refine lv_istore_n (lv' := [(3, .int (nI N)), (2, .ref r), (1, .int 0), (0, .ref o)]) hx hb dX3_pass_9 rfl hl (by decide) rfl (fun ls hl => ?_)
  refine lv_iconst (v := 0) hx hb dX3_pass_10 (by decide) ?_
  refine lv_istore (lv' := [(4, .int 0), (3, .int (nI N)), (2, .ref r), (1, .int 0), (0, .ref o)]) hx hb dX3_pass_11 hl (by decide) rfl (fun ls hl => ?_)
  rw [← k_upto_0 (g := k_min mn) (K := M)] at hP hD
  have loop : ∀ (j : Nat), ∀ (i : Nat) (x1 : Int32), i + j = N → x1 = k_sum (fun c => k_min mn (M c) 8) i → ∀ (H : Heap) (locs : List Loc) (ls : Array Slot), va_P D vwCl (cu_sm C o r g N mn (k_upto (k_min mn) M i)) H → va_D A (cu_sm C o r g N mn (k_upto (k_min mn) M i)) → va_S A H0 H locs → lv_has ls 6 [(0, .ref o), (1, .int x1), (2, .ref r), (3, .int (nI N)), (4, .int (nI i))] → W p l e { frames := 2, cells := 0, slots := 0, locals := 46 } s m args below meth c H locs 0 0 Z (F0 m 13 ls []) := by
    intro j
    induction j with
    | zero =>
      intro i x1 hj hx1 H locs ls hP hD hS hl
      have eN : i = N := by omega
      refine lv_iload hx hb dX3_pass_13 (lv_at hl 4 rfl) ?_
      refine lv_iload_n hx hb dX3_pass_15 rfl (lv_at hl 3 rfl) ?_
      refine lv_icmp_ge (tgt := 48) hx hb dX3_pass_16 (by decide) (fun c_16 => ?_) (fun c_16 => absurd (nI_le (a := N) (by omega) (by omega)) c_16)
      refine lv_aload_n hx hb dX3_pass_48 rfl (lv_at hl 0 rfl) ?_
      refine lv_dup hx hb dX3_pass_49 rfl ?_
      obtain ⟨qa, ha⟩ := List.getElem?_of_mem (cu_sp.mem (cu_sp.rdm (cu_sm_o (C := C) (o := o) (r := r) (g := g) (N := N) (mn := mn) (M := (k_upto (k_min mn) M i)))))
      refine va_get (D := D) (ci := 3) (v := .int mn) (C := RX3) (T := TX3) (N := 2) hx hb hts hiX3 hown hK hP qa ha rfl 1 (by decide) (hts (.fieldLink RX3 20 "CuckooShopLaw$Sim" "minute" "I") (by decide +kernel)) (fun _ h9 => h9) rfl dX3_pass_50 ?_
      refine lv_iconst (v := 1) hx hb dX3_pass_53 (by decide) ?_
      refine lv_iadd hx hb dX3_pass_54 ?_
      have sp9 := (cu_sm_m (C := C) (o := o) (r := r) (g := g) (N := N) (mn := mn) (mn' := (mn + 1)) (M := (k_upto (k_min mn) M i)))
      have hD9 := hD
      obtain ⟨qa, ha⟩ := List.getElem?_of_mem (cu_sp.mem sp9)
      refine va_put (D := D) (ci := 3) (v := .int (mn + 1)) (ty := .int) (C := RX3) (T := TX3) (N := 2) hx hb hts hiX3 tyX3 tyX3_ok nmX3 hown hK hP hD hS qa ha rfl 1 (by decide) (hts (.fieldLink RX3 20 "CuckooShopLaw$Sim" "minute" "I") (by decide +kernel)) (fun _ h9 => h9) rfl (by decide +kernel) rfl rfl (Nat.le_of_ble_eq_true rfl) dX3_pass_55 (fun H locs hP hD hS => ?_)
      have hP : va_P D vwCl (cu_sm C o r g N (mn + 1) (k_upto (k_min mn) M i)) H := cu_sp.put sp9 ha hD9 hP
      have hD : va_D A (cu_sm C o r g N (mn + 1) (k_upto (k_min mn) M i)) := cu_D_fst sp9.fst hD9
      refine lv_iload_n hx hb dX3_pass_58 rfl (lv_at hl 1 rfl) ?_
      exact fin _ _ _ _ _ rfl (by rw [hx1, eN]; rfl) (by rw [eN] at hP; exact hP) hS dX3_pass_59
    | succ j ih =>
      intro i x1 hj hx1 H locs ls hP hD hS hl
      have hi : i < N := by omega
      refine lv_iload hx hb dX3_pass_13 (lv_at hl 4 rfl) ?_
      refine lv_iload_n hx hb dX3_pass_15 rfl (lv_at hl 3 rfl) ?_
      refine lv_icmp_ge (tgt := 48) hx hb dX3_pass_16 (by decide) (fun c_16 => absurd c_16 (nI_ge (b := N) (by omega) (by omega))) (fun c_16 => ?_)
      refine lv_aload_n hx hb dX3_pass_19 rfl (lv_at hl 2 rfl) ?_
      refine lv_iload hx hb dX3_pass_20 (lv_at hl 4 rfl) ?_
      obtain ⟨qa, ha⟩ := List.getElem?_of_mem (cu_sp.mem (cu_sp.rdm (cu_sm_r (C := C) (o := o) (r := r) (g := g) (N := N) (mn := mn) (M := (k_upto (k_min mn) M i)))))
      refine va_aldq hx hb hK hP qa 2 ha rfl (vp_in_nI hi (by omega)) dX3_pass_22 ?_
      rw [nI_clamp (show i < 2 ^ 31 by omega)]
      refine W.eq (g2 := F0 m 23 ls [.ref (g i)]) rfl ?_
      refine lv_astore (lv' := [(5, .ref (g i)), (0, .ref o), (1, .int x1), (2, .ref r), (3, .int (nI N)), (4, .int (nI i))]) hx hb dX3_pass_23 hl (by decide) rfl (fun ls hl => ?_)
      refine lv_aload hx hb dX3_pass_25 (lv_at hl 0 rfl) ?_
      refine lv_aload_n hx hb dX3_pass_27 rfl (lv_at hl 1 rfl) ?_
      obtain ⟨qa, ha⟩ := List.getElem?_of_mem (cu_sp.mem (cu_sp.rdm (cu_sm_o (C := C) (o := o) (r := r) (g := g) (N := N) (mn := mn) (M := (k_upto (k_min mn) M i)))))
      refine va_get (D := D) (ci := 3) (v := .int mn) (C := RX3) (T := TX3) (N := 2) hx hb hts hiX3 hown hK hP qa ha rfl 1 (by decide) (hts (.fieldLink RX3 20 "CuckooShopLaw$Sim" "minute" "I") (by decide +kernel)) (fun _ h9 => h9) rfl dX3_pass_28 ?_
      have sp := (cu_sm_sp (C := C) (o := o) (r := r) (g := g) (N := N) (mn := mn) (M := (k_upto (k_min mn) M i)) (M' := (va_up (k_upto (k_min mn) M i) i (k_min mn (M i)))) (i := i) (X := (M i)) (X' := (k_min mn (M i))) hi k_upto_i rfl)
      refine cu_callV (va_runV (As := [.int mn]) (rest := []) ⟨hx, hb, hml, hown, hts⟩ ((m_X2_pass l D C (g i) (M i) mn (hok i hi)) H.size) (cwV 1 hts gX3_pass_X2_pass rfl rfl rfl (by decide +kernel) ⟨Nat.le_of_ble_eq_true rfl, Nat.le_of_ble_eq_true rfl⟩) (cu_preV (ci := 2) sp hG hP hD rfl rfl) rfl rfl hl.1 rfl (lv_room (Nat.le_of_ble_eq_true rfl)) dX3_pass_31 ⟨Nat.le_of_ble_eq_true rfl, Nat.le_of_ble_eq_true rfl⟩) sp hP hD hS hA (fun H locs hP hD hS => ?_)
      have hP : va_P D vwCl (cu_sm C o r g N mn (va_up (k_upto (k_min mn) M i) i (k_min mn (M i)))) H := hP
      have hD : va_D A (cu_sm C o r g N mn (va_up (k_upto (k_min mn) M i) i (k_min mn (M i)))) := hD
      refine lv_iload_n hx hb dX3_pass_34 rfl (lv_at hl 2 rfl) ?_
      refine lv_aload hx hb dX3_pass_35 (lv_at hl 0 rfl) ?_
      obtain ⟨qa, ha⟩ := List.getElem?_of_mem (cu_sp.mem (cu_sm_rd (C := C) (o := o) (r := r) (g := g) (N := N) (mn := mn) (M := (va_up (k_upto (k_min mn) M i) i (k_min mn (M i)))) (i := i) (X := (k_min mn (M i))) hi (va_up_self (k_upto (k_min mn) M i) i (k_min mn (M i)))))
      refine va_get (D := D) (ci := 2) (v := .int ((k_min mn (M i)) 8)) (C := RX2) (T := TX2) (N := 14) hx hb hts hiX2 hown hK hP qa ha rfl 11 (by decide) (hts (.fieldLink RX3 32 "CuckooShopLaw$Clock" "latest" "I") (by decide +kernel)) (fun _ h9 => h9) rfl dX3_pass_37 ?_
      refine lv_iadd hx hb dX3_pass_40 ?_
      refine lv_istore_n (lv' := [(1, .int (x1 + ((k_min mn (M i)) 8))), (5, .ref (g i)), (0, .ref o), (2, .ref r), (3, .int (nI N)), (4, .int (nI i))]) hx hb dX3_pass_41 rfl hl (by decide) rfl (fun ls hl => ?_)
      refine lv_iinc (v := (nI (i + 1))) (lv' := [(4, .int (nI (i + 1))), (1, .int (x1 + ((k_min mn (M i)) 8))), (5, .ref (g i)), (0, .ref o), (2, .ref r), (3, .int (nI N))]) hx hb dX3_pass_42 hl (k := 5) rfl (nI_1 i) (by decide) rfl (fun ls hl => ?_)
      refine lv_goto (tgt := 13) hx hb dX3_pass_45 (by decide) ?_
      rw [k_upto_s] at hP hD
      exact ih (i + 1) _ (by omega) (by rw [hx1]; rfl) _ _ _ hP hD hS (lv_sub hl [3, 1, 4, 5, 0] rfl)
  exact loop N 0 0 (by omega) rfl _ _ _ hP hD hS (lv_sub hl [4, 3, 2, 1, 0] rfl)
