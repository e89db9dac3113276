/-! one thing that is done to both -/
set_option maxHeartbeats 4000000 in
set_option maxRecDepth 100000 in
theorem m_L_act0 (l : Launch) (hlf : l.stackTraces = false) (D : va_G) (C : Nat → ClassId) (a : Nat → Nat) (o r : Nat) (g : Nat → Nat) (N : Nat) (mn : Int32) (K P : Nat → Nat → Int32) (T : Nat) (v : Int32) (I : k_in N mn K T) (hN0 : N = 0) : cu_GI l D C yL_act wsL_act { frames := 8, cells := 4, slots := 60, locals := 130 } [.ref (a 0), .ref o, .int v] ((cu_cw C a (nI N) mn K P) ++ (cu_sm C o r g N mn K)) cu_xT (fun (v : Int32) (u : Nat × Nat × (Nat → Nat) × (Nat → Nat → Int32)) => v = 1 ∧ k_in u.1 mn u.2.2.2 T) (fun u => cu_cw C a (nI u.1) mn u.2.2.2 P ++ cu_sm C o u.2.1 u.2.2.1 u.1 mn u.2.2.2) 4 60 := by
  refine cu_openGI (cc := cL_act) (maxL := 12) (own := RL) (by decide) rfl rfl (Nat.le_of_ble_eq_true rfl) ?_
  intro p e s m args below meth c A Z H0 ls e0 hx hb hml hts hown hnm hG hP hD hS hA hl hE fin
  have hK := hG.1
  have hT : cu_T A s H0 := by have h9 : cu_T A s s.heap := hE; rw [e0] at h9; exact h9
  have hN := I.1
  have hl : lv_has ls 12 [(0, .ref (a 0)), (1, .ref o), (2, .int v)] := hl
  have hiX3 : ∀ w ∈ wsX30, w ∈ wsL_act := by exact fun _ h => List.mem_cons_of_mem _ (List.mem_append_left _ (List.mem_append_left _ (List.mem_append_left _ (List.mem_append_left _ (List.mem_append_left _ (List.mem_append_left _ (List.mem_append_right _ h)))))))
  have hz : nI N = 0 := by rw [hN0]; rfl
  refine lv_aload_n hx hb dL_act_0 rfl (lv_at hl 1 rfl) ?_
  obtain ⟨qa, ha⟩ := List.getElem?_of_mem (cu_sp.mem (cu_sp.inR (X := (cu_cw C a (nI N) mn K P)) (cu_sp.rdm (cu_sm_o (C := C) (o := o) (r := r) (g := g) (N := N) (mn := mn) (M := K)))))
  refine va_get (D := D) (ci := 3) (v := .ref r) (C := RX3) (T := TX3) (N := 2) hx hb hts hiX3 hown hK hP qa ha rfl 0 (by decide) (hts (.fieldLink RL 9 "CuckooShopLaw$Sim" "clocks" "[LCuckooShopLaw$Clock;") (by decide +kernel)) (fun _ h9 => h9) rfl dL_act_1 ?_
  obtain ⟨qa, ha⟩ := List.getElem?_of_mem (cu_sp.mem (cu_sp.inR (X := (cu_cw C a (nI N) mn K P)) (cu_sp.rdm (cu_sm_r (C := C) (o := o) (r := r) (g := g) (N := N) (mn := mn) (M := K)))))
  refine va_alen (v := nI N) hx hb hK hP qa 2 ha rfl rfl dL_act_4 ?_
  refine lv_istore_n (lv' := [(3, .int (nI N)), (0, .ref (a 0)), (1, .ref o), (2, .int v)]) hx hb dL_act_5 rfl hl (by decide) rfl (fun ls hl => ?_)
  refine lv_iload_n hx hb dL_act_6 rfl (lv_at hl 0 rfl) ?_
  refine lv_if_ne (tgt := 14) hx hb dL_act_7 (by decide) (fun c_7 => absurd hz c_7) (fun c_7 => ?_)
  refine lv_iconst (v := 0) hx hb dL_act_10 (by decide) ?_
  refine lv_goto (tgt := 19) hx hb dL_act_11 (by decide) ?_
  refine lv_istore (lv' := [(4, .int 0), (3, .int (nI N)), (0, .ref (a 0)), (1, .ref o), (2, .int v)]) hx hb dL_act_19 hl (by decide) rfl (fun ls hl => ?_)
  refine lv_iload_n hx hb dL_act_21 rfl (lv_at hl 1 rfl) ?_
  refine lv_if_ne (tgt := 29) hx hb dL_act_22 (by decide) (fun c_22 => absurd hz c_22) (fun c_22 => ?_)
  refine lv_null hx hb dL_act_25 ?_
  refine lv_goto (tgt := 36) hx hb dL_act_26 (by decide) ?_
  refine lv_astoreN (lv' := [(5, .null), (4, .int 0), (3, .int (nI N)), (0, .ref (a 0)), (1, .ref o), (2, .int v)]) hx hb dL_act_36 hl (by decide) rfl (fun ls hl => ?_)
  refine lv_iload_n hx hb dL_act_38 rfl (lv_at hl 2 rfl) ?_
  refine lv_if_ne (tgt := 46) hx hb dL_act_39 (by decide) (fun c_39 => absurd hz c_39) (fun c_39 => ?_)
  refine lv_iconst (v := 0) hx hb dL_act_42 (by decide) ?_
  refine lv_goto (tgt := 55) hx hb dL_act_43 (by decide) ?_
  refine lv_tableIn (off := 37) (tgt := 92) hx hb dL_act_55 (by decide) (by decide) (by decide) (by decide) ?_
  refine lv_iload_n hx hb dL_act_92 rfl (lv_at hl 2 rfl) ?_
  refine lv_bipush (v := 10) hx hb dL_act_93 (by decide) ?_
  refine lv_icmp_ne (tgt := 100) hx hb dL_act_95 (by decide) (fun c_95 => ?_) (fun c_95 => absurd (hz.symm.trans c_95) (by decide))
  have hN1 : N < 10 := k_n10 hN c_95
  refine lv_iload_n hx hb dL_act_100 rfl (lv_at hl 5 rfl) ?_
  refine lv_iconst (v := 3) hx hb dL_act_101 (by decide) ?_
  refine lv_imul hx hb dL_act_102 ?_
  refine lv_sipush (v := 720) hx hb dL_act_103 (by decide) ?_
  have sp := cu_sp.nil (W0 := ((cu_cw C a (nI N) mn K P) ++ (cu_sm C o r g N mn K)))
  refine cu_callI (va_runS (As := [.int (v * 3), .int 720]) (rest := []) ⟨hx, hb, hml, hown, hts⟩ ((m_L_below l D C (v * 3) 720 (by first | exact hne | decide)) H0.size) (va_cwS 2 hts gL_act_L_below rfl rfl rfl (by decide +kernel) ⟨Nat.le_of_ble_eq_true rfl, Nat.le_of_ble_eq_true rfl⟩) (cu_preS sp hG hP hD) rfl rfl hl.1 rfl (lv_room (Nat.le_of_ble_eq_true rfl)) dL_act_106 ⟨Nat.le_of_ble_eq_true rfl, Nat.le_of_ble_eq_true rfl⟩) sp hP hD hS hA (fun H locs hP hD hS => ?_)
  refine lv_istore (lv' := [(6, .int (k_bel (v * 3) 720)), (5, .null), (4, .int 0), (3, .int (nI N)), (0, .ref (a 0)), (1, .ref o), (2, .int v)]) hx hb dL_act_109 hl (by decide) rfl (fun ls hl => ?_)
  refine lv_aload_n hx hb dL_act_111 rfl (lv_at hl 5 rfl) ?_
  refine lv_iload hx hb dL_act_112 (lv_at hl 0 rfl) ?_
  have sp : cu_sp ((cu_cw C a (nI N) mn K P) ++ (cu_sm C o r g N mn K)) (cu_sm C o r g N mn K) ((cu_cw C a (nI N) mn K P) ++ (cu_sm C o r g N mn K)) (cu_sm C o r g N mn K) := (cu_sp.inR (X := (cu_cw C a (nI N) mn K P)) (cu_sp.all (W0 := (cu_sm C o r g N mn K)) (W1 := (cu_sm C o r g N mn K)) rfl))
  have hF := sp.F hD hS hA
  refine cu_callGR (va_runV (As := [.int (k_bel (v * 3) 720)]) (rest := []) ⟨hx, hb, hml, hown, hts⟩ (m_X3_come l D C o r g N hN mn K (k_bel (v * 3) 720) H.size) (cwV 1 hts gL_act_X3_come rfl rfl rfl (by decide +kernel) ⟨Nat.le_of_ble_eq_true rfl, Nat.le_of_ble_eq_true rfl⟩) (cu_preGV (ci := 3) sp hG hP hD cu_bl_N cu_at_N cu_sm_o rfl) rfl rfl hl.1 rfl (lv_room (Nat.le_of_ble_eq_true rfl)) dL_act_114 ⟨Nat.le_of_ble_eq_true rfl, Nat.le_of_ble_eq_true rfl⟩) hF hS (fun q z H1 locs _ hP1 hD1 _ hk9 hS => ?_)
  obtain ⟨hP, hD⟩ := cu_joinR hP hD hP1 hD1 hk9 hF
  have hP : va_P D vwCl ((cu_cw C a (nI N) mn K P) ++ (cu_sm C o q (va_up g N z) (N + 1) mn (va_up K N (k_fresh (k_bel (v * 3) 720))))) H1 := hP
  have hD : va_D A ((cu_cw C a (nI N) mn K P) ++ (cu_sm C o q (va_up g N z) (N + 1) mn (va_up K N (k_fresh (k_bel (v * 3) 720))))) := hD
  refine lv_pop hx hb dL_act_117 rfl ?_
  refine lv_aload_n hx hb dL_act_118 rfl (lv_at hl 4 rfl) ?_
  refine lv_iload hx hb dL_act_119 (lv_at hl 0 rfl) ?_
  have sp := (cu_sp.inL (Y := (cu_sm C o q (va_up g N z) (N + 1) mn (va_up K N (k_fresh (k_bel (v * 3) 720))))) (cu_sp.all (W0 := (cu_cw C a (nI N) mn K P)) (W1 := (cu_cw C a (nI (N + 1)) mn (va_up K N (upd (upd (K N) 0 (k_bel (v * 3) 720)) 1 0)) P)) cu_cw_fst))
  refine cu_callXI (vx_runV (As := [.int (k_bel (v * 3) 720)]) (rest := []) ⟨hx, hb, hml, hown, hts⟩ ((n_come l hlf D C a N hN mn K P hN1 (k_bel (v * 3) 720) (k_bel720 _)) H1.size) (cwV 1 hts gL_act_X1_come rfl rfl rfl (by decide +kernel) ⟨Nat.le_of_ble_eq_true rfl, Nat.le_of_ble_eq_true rfl⟩) (cu_preXV (ci := 1) sp hG hP hD hT hS hA rfl rfl) rfl rfl hl.1 rfl (lv_room (Nat.le_of_ble_eq_true rfl)) dL_act_121 ⟨Nat.le_of_ble_eq_true rfl, Nat.le_of_ble_eq_true rfl⟩) sp hP hD hS hA (fun E _ _ _ _ hoE _ _ _ _ _ _ => by cases hoE) (fun H locs _ hP hD hS => ?_)
  have hP : va_P D vwCl ((cu_cw C a (nI (N + 1)) mn (va_up K N (upd (upd (K N) 0 (k_bel (v * 3) 720)) 1 0)) P) ++ (cu_sm C o q (va_up g N z) (N + 1) mn (va_up K N (k_fresh (k_bel (v * 3) 720))))) H := hP
  have hD : va_D A ((cu_cw C a (nI (N + 1)) mn (va_up K N (upd (upd (K N) 0 (k_bel (v * 3) 720)) 1 0)) P) ++ (cu_sm C o q (va_up g N z) (N + 1) mn (va_up K N (k_fresh (k_bel (v * 3) 720))))) := hD
  refine lv_iload_n hx hb dL_act_124 rfl (lv_at hl 3 rfl) ?_
  refine lv_icmp_ne (tgt := 132) hx hb dL_act_125 (by decide) (fun c_125 => absurd rfl c_125) (fun c_125 => ?_)
  refine lv_iconst (v := 1) hx hb dL_act_128 (by decide) ?_
  refine lv_goto (tgt := 133) hx hb dL_act_129 (by decide) ?_
  have eM : (va_up K N (k_fresh (k_bel (v * 3) 720))) = (va_up K N (upd (upd (K N) 0 (k_bel (v * 3) 720)) 1 0)) := by rw [I.2.1 N (Nat.le_refl N)]; rfl
  rw [eM] at hP hD
  refine W.widen (k := 4) (n := 60) (Nat.le_of_ble_eq_true rfl) (Nat.le_of_ble_eq_true rfl) ?_
  exact fin ((N + 1), q, (va_up g N z), (va_up K N (upd (upd (K N) 0 (k_bel (v * 3) 720)) 1 0))) 1 _ _ _ _ rfl ⟨rfl, (k_in_come I hN1 (k_bel720 _))⟩ hP hD hS dL_act_133

set_option maxHeartbeats 4000000 in
set_option maxRecDepth 100000 in
theorem m_L_act1 (l : Launch) (hlf : l.stackTraces = false) (D : va_G) (C : Nat → ClassId) (a : Nat → Nat) (o r : Nat) (g : Nat → Nat) (N : Nat) (mn : Int32) (K P : Nat → Nat → Int32) (T : Nat) (v : Int32) (I : k_in N mn K T) (h0N : 0 < N) : cu_GI l D C yL_act wsL_act { frames := 8, cells := 4, slots := 60, locals := 130 } [.ref (a 0), .ref o, .int v] ((cu_cw C a (nI N) mn K P) ++ (cu_sm C o r g N mn K)) cu_xT (fun (v : Int32) (u : Nat × Nat × (Nat → Nat) × (Nat → Nat → Int32)) => v = 1 ∧ k_in u.1 mn u.2.2.2 T) (fun u => cu_cw C a (nI u.1) mn u.2.2.2 P ++ cu_sm C o u.2.1 u.2.2.1 u.1 mn u.2.2.2) 4 60 := by
  refine cu_openGI (cc := cL_act) (maxL := 12) (own := RL) (by decide) rfl rfl (Nat.le_of_ble_eq_true rfl) ?_
  intro p e s m args below meth c A Z H0 ls e0 hx hb hml hts hown hnm hG hP hD hS hA hl hE fin
  have hK := hG.1
  have hT : cu_T A s H0 := by have h9 : cu_T A s s.heap := hE; rw [e0] at h9; exact h9
  have hN := I.1
  have hl : lv_has ls 12 [(0, .ref (a 0)), (1, .ref o), (2, .int v)] := hl
  have hiX2 : ∀ w ∈ wsX20, w ∈ wsL_act := by exact fun _ h => List.mem_cons_of_mem _ (List.mem_append_left _ (List.mem_append_left _ (List.mem_append_left _ (List.mem_append_left _ (List.mem_append_left _ (List.mem_append_right _ h))))))
  have hiX3 : ∀ w ∈ wsX30, w ∈ wsL_act := by exact fun _ h => List.mem_cons_of_mem _ (List.mem_append_left _ (List.mem_append_left _ (List.mem_append_left _ (List.mem_append_left _ (List.mem_append_left _ (List.mem_append_left _ (List.mem_append_right _ h)))))))
  have hne : ¬ nI N = 0 := k_nz h0N (by omega)
  refine lv_aload_n hx hb dL_act_0 rfl (lv_at hl 1 rfl) ?_
  obtain ⟨qa, ha⟩ := List.getElem?_of_mem (cu_sp.mem (cu_sp.inR (X := (cu_cw C a (nI N) mn K P)) (cu_sp.rdm (cu_sm_o (C := C) (o := o) (r := r) (g := g) (N := N) (mn := mn) (M := K)))))
  refine va_get (D := D) (ci := 3) (v := .ref r) (C := RX3) (T := TX3) (N := 2) hx hb hts hiX3 hown hK hP qa ha rfl 0 (by decide) (hts (.fieldLink RL 9 "CuckooShopLaw$Sim" "clocks" "[LCuckooShopLaw$Clock;") (by decide +kernel)) (fun _ h9 => h9) rfl dL_act_1 ?_
  obtain ⟨qa, ha⟩ := List.getElem?_of_mem (cu_sp.mem (cu_sp.inR (X := (cu_cw C a (nI N) mn K P)) (cu_sp.rdm (cu_sm_r (C := C) (o := o) (r := r) (g := g) (N := N) (mn := mn) (M := K)))))
  refine va_alen (v := nI N) hx hb hK hP qa 2 ha rfl rfl dL_act_4 ?_
  refine lv_istore_n (lv' := [(3, .int (nI N)), (0, .ref (a 0)), (1, .ref o), (2, .int v)]) hx hb dL_act_5 rfl hl (by decide) rfl (fun ls hl => ?_)
  refine lv_iload_n hx hb dL_act_6 rfl (lv_at hl 0 rfl) ?_
  refine lv_if_ne (tgt := 14) hx hb dL_act_7 (by decide) (fun c_7 => ?_) (fun c_7 => absurd c_7 hne)
  refine lv_iload_n hx hb dL_act_14 rfl (lv_at hl 3 rfl) ?_
  refine lv_iload_n hx hb dL_act_15 rfl (lv_at hl 0 rfl) ?_
  have sp := cu_sp.nil (W0 := ((cu_cw C a (nI N) mn K P) ++ (cu_sm C o r g N mn K)))
  refine cu_callI (va_runS (As := [.int v, .int (nI N)]) (rest := []) ⟨hx, hb, hml, hown, hts⟩ ((m_L_below l D C v (nI N) (by first | exact hne | decide)) H0.size) (va_cwS 2 hts gL_act_L_below rfl rfl rfl (by decide +kernel) ⟨Nat.le_of_ble_eq_true rfl, Nat.le_of_ble_eq_true rfl⟩) (cu_preS sp hG hP hD) rfl rfl hl.1 rfl (lv_room (Nat.le_of_ble_eq_true rfl)) dL_act_16 ⟨Nat.le_of_ble_eq_true rfl, Nat.le_of_ble_eq_true rfl⟩) sp hP hD hS hA (fun H locs hP hD hS => ?_)
  obtain ⟨k, hk, ek⟩ := k_bel_in v h0N (by omega)
  refine cu_top (x' := nI k) ek ?_
  refine lv_istore (lv' := [(4, .int (nI k)), (3, .int (nI N)), (0, .ref (a 0)), (1, .ref o), (2, .int v)]) hx hb dL_act_19 hl (by decide) rfl (fun ls hl => ?_)
  refine lv_iload_n hx hb dL_act_21 rfl (lv_at hl 1 rfl) ?_
  refine lv_if_ne (tgt := 29) hx hb dL_act_22 (by decide) (fun c_22 => ?_) (fun c_22 => absurd c_22 hne)
  refine lv_aload_n hx hb dL_act_29 rfl (lv_at hl 3 rfl) ?_
  obtain ⟨qa, ha⟩ := List.getElem?_of_mem (cu_sp.mem (cu_sp.inR (X := (cu_cw C a (nI N) mn K P)) (cu_sp.rdm (cu_sm_o (C := C) (o := o) (r := r) (g := g) (N := N) (mn := mn) (M := K)))))
  refine va_get (D := D) (ci := 3) (v := .ref r) (C := RX3) (T := TX3) (N := 2) hx hb hts hiX3 hown hK hP qa ha rfl 0 (by decide) (hts (.fieldLink RL 9 "CuckooShopLaw$Sim" "clocks" "[LCuckooShopLaw$Clock;") (by decide +kernel)) (fun _ h9 => h9) rfl dL_act_30 ?_
  refine lv_iload hx hb dL_act_33 (lv_at hl 0 rfl) ?_
  obtain ⟨qa, ha⟩ := List.getElem?_of_mem (cu_sp.mem (cu_sp.inR (X := (cu_cw C a (nI N) mn K P)) (cu_sp.rdm (cu_sm_r (C := C) (o := o) (r := r) (g := g) (N := N) (mn := mn) (M := K)))))
  refine va_aldq hx hb hK hP qa 2 ha rfl (vp_in_nI hk (by omega)) dL_act_35 ?_
  rw [nI_clamp (show k < 2 ^ 31 by omega)]
  refine W.eq (g2 := F0 m 36 ls [.ref (g k)]) rfl ?_
  refine lv_astore (lv' := [(5, .ref (g k)), (4, .int (nI k)), (3, .int (nI N)), (0, .ref (a 0)), (1, .ref o), (2, .int v)]) hx hb dL_act_36 hl (by decide) rfl (fun ls hl => ?_)
  refine lv_iload_n hx hb dL_act_38 rfl (lv_at hl 2 rfl) ?_
  refine lv_if_ne (tgt := 46) hx hb dL_act_39 (by decide) (fun c_39 => ?_) (fun c_39 => absurd c_39 hne)
  refine lv_iload_n hx hb dL_act_46 rfl (lv_at hl 5 rfl) ?_
  refine lv_bipush (v := 9) hx hb dL_act_47 (by decide) ?_
  refine lv_ishr hx hb dL_act_49 ?_
  refine lv_topi (fun z1 _ => ?_)
  refine lv_bipush (v := 8) hx hb dL_act_50 (by decide) ?_
  have sp := cu_sp.nil (W0 := ((cu_cw C a (nI N) mn K P) ++ (cu_sm C o r g N mn K)))
  refine cu_callI (va_runS (As := [.int z1, .int 8]) (rest := []) ⟨hx, hb, hml, hown, hts⟩ ((m_L_below l D C z1 8 (by first | exact hne | decide)) H.size) (va_cwS 2 hts gL_act_L_below rfl rfl rfl (by decide +kernel) ⟨Nat.le_of_ble_eq_true rfl, Nat.le_of_ble_eq_true rfl⟩) (cu_preS sp hG hP hD) rfl rfl hl.1 rfl (lv_room (Nat.le_of_ble_eq_true rfl)) dL_act_52 ⟨Nat.le_of_ble_eq_true rfl, Nat.le_of_ble_eq_true rfl⟩) sp hP hD hS hA (fun H locs hP hD hS => ?_)
  refine lv_topi (fun y ey => ?_)
  by_cases s_0 : y = 0
  · subst s_0
    refine lv_tableIn (off := 37) (tgt := 92) hx hb dL_act_55 (by decide) (by decide) (by decide) (by decide) ?_
    refine lv_iload_n hx hb dL_act_92 rfl (lv_at hl 2 rfl) ?_
    refine lv_bipush (v := 10) hx hb dL_act_93 (by decide) ?_
    refine lv_icmp_ne (tgt := 100) hx hb dL_act_95 (by decide) (fun c_95 => ?_) (fun c_95 => ?_)
    · have hN1 : N < 10 := k_n10 hN c_95
      refine lv_iload_n hx hb dL_act_100 rfl (lv_at hl 5 rfl) ?_
      refine lv_iconst (v := 3) hx hb dL_act_101 (by decide) ?_
      refine lv_imul hx hb dL_act_102 ?_
      refine lv_sipush (v := 720) hx hb dL_act_103 (by decide) ?_
      have sp := cu_sp.nil (W0 := ((cu_cw C a (nI N) mn K P) ++ (cu_sm C o r g N mn K)))
      refine cu_callI (va_runS (As := [.int (v * 3), .int 720]) (rest := []) ⟨hx, hb, hml, hown, hts⟩ ((m_L_below l D C (v * 3) 720 (by first | exact hne | decide)) H.size) (va_cwS 2 hts gL_act_L_below rfl rfl rfl (by decide +kernel) ⟨Nat.le_of_ble_eq_true rfl, Nat.le_of_ble_eq_true rfl⟩) (cu_preS sp hG hP hD) rfl rfl hl.1 rfl (lv_room (Nat.le_of_ble_eq_true rfl)) dL_act_106 ⟨Nat.le_of_ble_eq_true rfl, Nat.le_of_ble_eq_true rfl⟩) sp hP hD hS hA (fun H locs hP hD hS => ?_)
      refine lv_istore (lv' := [(6, .int (k_bel (v * 3) 720)), (5, .ref (g k)), (4, .int (nI k)), (3, .int (nI N)), (0, .ref (a 0)), (1, .ref o), (2, .int v)]) hx hb dL_act_109 hl (by decide) rfl (fun ls hl => ?_)
      refine lv_aload_n hx hb dL_act_111 rfl (lv_at hl 5 rfl) ?_
      refine lv_iload hx hb dL_act_112 (lv_at hl 0 rfl) ?_
      have sp : cu_sp ((cu_cw C a (nI N) mn K P) ++ (cu_sm C o r g N mn K)) (cu_sm C o r g N mn K) ((cu_cw C a (nI N) mn K P) ++ (cu_sm C o r g N mn K)) (cu_sm C o r g N mn K) := (cu_sp.inR (X := (cu_cw C a (nI N) mn K P)) (cu_sp.all (W0 := (cu_sm C o r g N mn K)) (W1 := (cu_sm C o r g N mn K)) rfl))
      have hF := sp.F hD hS hA
      refine cu_callGR (va_runV (As := [.int (k_bel (v * 3) 720)]) (rest := []) ⟨hx, hb, hml, hown, hts⟩ (m_X3_come l D C o r g N hN mn K (k_bel (v * 3) 720) H.size) (cwV 1 hts gL_act_X3_come rfl rfl rfl (by decide +kernel) ⟨Nat.le_of_ble_eq_true rfl, Nat.le_of_ble_eq_true rfl⟩) (cu_preGV (ci := 3) sp hG hP hD cu_bl_N cu_at_N cu_sm_o rfl) rfl rfl hl.1 rfl (lv_room (Nat.le_of_ble_eq_true rfl)) dL_act_114 ⟨Nat.le_of_ble_eq_true rfl, Nat.le_of_ble_eq_true rfl⟩) hF hS (fun q z H1 locs _ hP1 hD1 _ hk9 hS => ?_)
      obtain ⟨hP, hD⟩ := cu_joinR hP hD hP1 hD1 hk9 hF
      have hP : va_P D vwCl ((cu_cw C a (nI N) mn K P) ++ (cu_sm C o q (va_up g N z) (N + 1) mn (va_up K N (k_fresh (k_bel (v * 3) 720))))) H1 := hP
      have hD : va_D A ((cu_cw C a (nI N) mn K P) ++ (cu_sm C o q (va_up g N z) (N + 1) mn (va_up K N (k_fresh (k_bel (v * 3) 720))))) := hD
      refine lv_pop hx hb dL_act_117 rfl ?_
      refine lv_aload_n hx hb dL_act_118 rfl (lv_at hl 4 rfl) ?_
      refine lv_iload hx hb dL_act_119 (lv_at hl 0 rfl) ?_
      have sp := (cu_sp.inL (Y := (cu_sm C o q (va_up g N z) (N + 1) mn (va_up K N (k_fresh (k_bel (v * 3) 720))))) (cu_sp.all (W0 := (cu_cw C a (nI N) mn K P)) (W1 := (cu_cw C a (nI (N + 1)) mn (va_up K N (upd (upd (K N) 0 (k_bel (v * 3) 720)) 1 0)) P)) cu_cw_fst))
      refine cu_callXI (vx_runV (As := [.int (k_bel (v * 3) 720)]) (rest := []) ⟨hx, hb, hml, hown, hts⟩ ((n_come l hlf D C a N hN mn K P hN1 (k_bel (v * 3) 720) (k_bel720 _)) H1.size) (cwV 1 hts gL_act_X1_come rfl rfl rfl (by decide +kernel) ⟨Nat.le_of_ble_eq_true rfl, Nat.le_of_ble_eq_true rfl⟩) (cu_preXV (ci := 1) sp hG hP hD hT hS hA rfl rfl) rfl rfl hl.1 rfl (lv_room (Nat.le_of_ble_eq_true rfl)) dL_act_121 ⟨Nat.le_of_ble_eq_true rfl, Nat.le_of_ble_eq_true rfl⟩) sp hP hD hS hA (fun E _ _ _ _ hoE _ _ _ _ _ _ => by cases hoE) (fun H locs _ hP hD hS => ?_)
      have hP : va_P D vwCl ((cu_cw C a (nI (N + 1)) mn (va_up K N (upd (upd (K N) 0 (k_bel (v * 3) 720)) 1 0)) P) ++ (cu_sm C o q (va_up g N z) (N + 1) mn (va_up K N (k_fresh (k_bel (v * 3) 720))))) H := hP
      have hD : va_D A ((cu_cw C a (nI (N + 1)) mn (va_up K N (upd (upd (K N) 0 (k_bel (v * 3) 720)) 1 0)) P) ++ (cu_sm C o q (va_up g N z) (N + 1) mn (va_up K N (k_fresh (k_bel (v * 3) 720))))) := hD
      refine lv_iload_n hx hb dL_act_124 rfl (lv_at hl 3 rfl) ?_
      refine lv_icmp_ne (tgt := 132) hx hb dL_act_125 (by decide) (fun c_125 => absurd rfl c_125) (fun c_125 => ?_)
      refine lv_iconst (v := 1) hx hb dL_act_128 (by decide) ?_
      refine lv_goto (tgt := 133) hx hb dL_act_129 (by decide) ?_
      have eM : (va_up K N (k_fresh (k_bel (v * 3) 720))) = (va_up K N (upd (upd (K N) 0 (k_bel (v * 3) 720)) 1 0)) := by rw [I.2.1 N (Nat.le_refl N)]; rfl
      rw [eM] at hP hD
      refine W.widen (k := 4) (n := 60) (Nat.le_of_ble_eq_true rfl) (Nat.le_of_ble_eq_true rfl) ?_
      exact fin ((N + 1), q, (va_up g N z), (va_up K N (upd (upd (K N) 0 (k_bel (v * 3) 720)) 1 0))) 1 _ _ _ _ rfl ⟨rfl, (k_in_come I hN1 (k_bel720 _))⟩ hP hD hS dL_act_133
    · refine lv_iconst (v := 1) hx hb dL_act_98 (by decide) ?_
      refine W.widen (k := 4) (n := 60) (Nat.le_of_ble_eq_true rfl) (Nat.le_of_ble_eq_true rfl) ?_
      exact fin (N, r, g, K) 1 _ _ _ _ rfl ⟨rfl, I⟩ hP hD hS dL_act_99
  by_cases s_1 : y = 1
  · subst s_1
    refine lv_tableIn (off := 79) (tgt := 134) hx hb dL_act_55 (by decide) (by decide) (by decide) (by decide) ?_
    refine lv_aload hx hb dL_act_134 (lv_at hl 0 rfl) ?_
    refine lv_bipush (v := 20) hx hb dL_act_136 (by decide) ?_
    refine lv_iload_n hx hb dL_act_138 rfl (lv_at hl 5 rfl) ?_
    refine lv_iconst (v := 2) hx hb dL_act_139 (by decide) ?_
    refine lv_ishr hx hb dL_act_140 ?_
    refine lv_topi (fun z2 _ => ?_)
    refine lv_bipush (v := 21) hx hb dL_act_141 (by decide) ?_
    have sp := cu_sp.nil (W0 := ((cu_cw C a (nI N) mn K P) ++ (cu_sm C o r g N mn K)))
    refine cu_callI (va_runS (As := [.int z2, .int 21]) (rest := [.int 20, .ref (g k)]) ⟨hx, hb, hml, hown, hts⟩ ((m_L_below l D C z2 21 (by first | exact hne | decide)) H.size) (va_cwS 2 hts gL_act_L_below rfl rfl rfl (by decide +kernel) ⟨Nat.le_of_ble_eq_true rfl, Nat.le_of_ble_eq_true rfl⟩) (cu_preS sp hG hP hD) rfl rfl hl.1 rfl (lv_room (Nat.le_of_ble_eq_true rfl)) dL_act_143 ⟨Nat.le_of_ble_eq_true rfl, Nat.le_of_ble_eq_true rfl⟩) sp hP hD hS hA (fun H locs hP hD hS => ?_)
    refine lv_iadd hx hb dL_act_146 ?_
    refine lv_topi (fun ga ega => ?_)
    have sp9 := (cu_sp.inR (X := (cu_cw C a (nI N) mn K P)) (cu_sm_sp (C := C) (o := o) (r := r) (g := g) (N := N) (mn := mn) (M := K) (M' := (va_up K k (upd (K k) 9 ga))) (i := k) (X := (K k)) (X' := (upd (K k) 9 ga)) hk rfl rfl))
    have hD9 := hD
    obtain ⟨qa, ha⟩ := List.getElem?_of_mem (cu_sp.mem sp9)
    refine va_put (D := D) (ci := 2) (v := .int ga) (ty := .int) (C := RX2) (T := TX2) (N := 14) hx hb hts hiX2 tyX2 tyX2_ok nmX2 hown hK hP hD hS qa ha rfl 0 (by decide) (hts (.fieldLink RL 30 "CuckooShopLaw$Clock" "a" "I") (by decide +kernel)) (fun _ h9 => h9) rfl (by decide +kernel) rfl rfl (Nat.le_of_ble_eq_true rfl) dL_act_147 (fun H locs hP hD hS => ?_)
    have hP : va_P D vwCl ((cu_cw C a (nI N) mn K P) ++ (cu_sm C o r g N mn (va_up K k (upd (K k) 9 ga)))) H := cu_sp.put sp9 ha hD9 hP
    have hD : va_D A ((cu_cw C a (nI N) mn K P) ++ (cu_sm C o r g N mn (va_up K k (upd (K k) 9 ga)))) := cu_D_fst sp9.fst hD9
    refine lv_aload hx hb dL_act_150 (lv_at hl 0 rfl) ?_
    refine lv_iload_n hx hb dL_act_152 rfl (lv_at hl 5 rfl) ?_
    refine lv_bipush (v := 7) hx hb dL_act_153 (by decide) ?_
    refine lv_ishr hx hb dL_act_155 ?_
    refine lv_topi (fun z3 _ => ?_)
    refine lv_iconst (v := 3) hx hb dL_act_156 (by decide) ?_
    have sp := cu_sp.nil (W0 := ((cu_cw C a (nI N) mn K P) ++ (cu_sm C o r g N mn (va_up K k (upd (K k) 9 ga)))))
    refine cu_callI (va_runS (As := [.int z3, .int 3]) (rest := [.ref (g k)]) ⟨hx, hb, hml, hown, hts⟩ ((m_L_below l D C z3 3 (by first | exact hne | decide)) H.size) (va_cwS 2 hts gL_act_L_below rfl rfl rfl (by decide +kernel) ⟨Nat.le_of_ble_eq_true rfl, Nat.le_of_ble_eq_true rfl⟩) (cu_preS sp hG hP hD) rfl rfl hl.1 rfl (lv_room (Nat.le_of_ble_eq_true rfl)) dL_act_157 ⟨Nat.le_of_ble_eq_true rfl, Nat.le_of_ble_eq_true rfl⟩) sp hP hD hS hA (fun H locs hP hD hS => ?_)
    refine lv_if_ne (tgt := 171) hx hb dL_act_160 (by decide) (fun c_160 => ?_) (fun c_160 => ?_)
    · refine lv_bipush (v := 20) hx hb dL_act_171 (by decide) ?_
      refine lv_iload_n hx hb dL_act_173 rfl (lv_at hl 5 rfl) ?_
      refine lv_iconst (v := 4) hx hb dL_act_174 (by decide) ?_
      refine lv_ishr hx hb dL_act_175 ?_
      refine lv_topi (fun z4 _ => ?_)
      refine lv_bipush (v := 21) hx hb dL_act_176 (by decide) ?_
      have sp := cu_sp.nil (W0 := ((cu_cw C a (nI N) mn K P) ++ (cu_sm C o r g N mn (va_up K k (upd (K k) 9 ga)))))
      refine cu_callI (va_runS (As := [.int z4, .int 21]) (rest := [.int 20, .ref (g k)]) ⟨hx, hb, hml, hown, hts⟩ ((m_L_below l D C z4 21 (by first | exact hne | decide)) H.size) (va_cwS 2 hts gL_act_L_below rfl rfl rfl (by decide +kernel) ⟨Nat.le_of_ble_eq_true rfl, Nat.le_of_ble_eq_true rfl⟩) (cu_preS sp hG hP hD) rfl rfl hl.1 rfl (lv_room (Nat.le_of_ble_eq_true rfl)) dL_act_178 ⟨Nat.le_of_ble_eq_true rfl, Nat.le_of_ble_eq_true rfl⟩) sp hP hD hS hA (fun H locs hP hD hS => ?_)
      refine lv_iadd hx hb dL_act_181 ?_
      refine lv_topi (fun gb egb => ?_)
      have sp9 := (cu_sp.inR (X := (cu_cw C a (nI N) mn K P)) (cu_sm_sp (C := C) (o := o) (r := r) (g := g) (N := N) (mn := mn) (M := (va_up K k (upd (K k) 9 ga))) (M' := (va_up K k (upd (upd (K k) 9 ga) 10 gb))) (i := k) (X := (upd (K k) 9 ga)) (X' := (upd (upd (K k) 9 ga) 10 gb)) hk (va_up_self K k (upd (K k) 9 ga)) (bx_uu K k (upd (K k) 9 ga) (upd (upd (K k) 9 ga) 10 gb)).symm))
      have hD9 := hD
      obtain ⟨qa, ha⟩ := List.getElem?_of_mem (cu_sp.mem sp9)
      refine va_put (D := D) (ci := 2) (v := .int gb) (ty := .int) (C := RX2) (T := TX2) (N := 14) hx hb hts hiX2 tyX2 tyX2_ok nmX2 hown hK hP hD hS qa ha rfl 1 (by decide) (hts (.fieldLink RL 36 "CuckooShopLaw$Clock" "b" "I") (by decide +kernel)) (fun _ h9 => h9) rfl (by decide +kernel) rfl rfl (Nat.le_of_ble_eq_true rfl) dL_act_182 (fun H locs hP hD hS => ?_)
      have hP : va_P D vwCl ((cu_cw C a (nI N) mn K P) ++ (cu_sm C o r g N mn (va_up K k (upd (upd (K k) 9 ga) 10 gb)))) H := cu_sp.put sp9 ha hD9 hP
      have hD : va_D A ((cu_cw C a (nI N) mn K P) ++ (cu_sm C o r g N mn (va_up K k (upd (upd (K k) 9 ga) 10 gb)))) := cu_D_fst sp9.fst hD9
      refine lv_aload hx hb dL_act_185 (lv_at hl 0 rfl) ?_
      refine lv_iload_n hx hb dL_act_187 rfl (lv_at hl 5 rfl) ?_
      refine lv_iconst (v := 3) hx hb dL_act_188 (by decide) ?_
      refine lv_ishr hx hb dL_act_189 ?_
      refine lv_topi (fun z5 _ => ?_)
      refine lv_bipush (v := 41) hx hb dL_act_190 (by decide) ?_
      have sp := cu_sp.nil (W0 := ((cu_cw C a (nI N) mn K P) ++ (cu_sm C o r g N mn (va_up K k (upd (upd (K k) 9 ga) 10 gb)))))
      refine cu_callI (va_runS (As := [.int z5, .int 41]) (rest := [.ref (g k)]) ⟨hx, hb, hml, hown, hts⟩ ((m_L_below l D C z5 41 (by first | exact hne | decide)) H.size) (va_cwS 2 hts gL_act_L_below rfl rfl rfl (by decide +kernel) ⟨Nat.le_of_ble_eq_true rfl, Nat.le_of_ble_eq_true rfl⟩) (cu_preS sp hG hP hD) rfl rfl hl.1 rfl (lv_room (Nat.le_of_ble_eq_true rfl)) dL_act_192 ⟨Nat.le_of_ble_eq_true rfl, Nat.le_of_ble_eq_true rfl⟩) sp hP hD hS hA (fun H locs hP hD hS => ?_)
      refine lv_bipush (v := 20) hx hb dL_act_195 (by decide) ?_
      refine lv_isub hx hb dL_act_197 ?_
      refine lv_topi (fun gs egs => ?_)
      have sp9 := (cu_sp.inR (X := (cu_cw C a (nI N) mn K P)) (cu_sm_sp (C := C) (o := o) (r := r) (g := g) (N := N) (mn := mn) (M := (va_up K k (upd (upd (K k) 9 ga) 10 gb))) (M' := (va_up K k (upd (upd (upd (K k) 9 ga) 10 gb) 11 gs))) (i := k) (X := (upd (upd (K k) 9 ga) 10 gb)) (X' := (upd (upd (upd (K k) 9 ga) 10 gb) 11 gs)) hk (va_up_self K k (upd (upd (K k) 9 ga) 10 gb)) (bx_uu K k (upd (upd (K k) 9 ga) 10 gb) (upd (upd (upd (K k) 9 ga) 10 gb) 11 gs)).symm))
      have hD9 := hD
      obtain ⟨qa, ha⟩ := List.getElem?_of_mem (cu_sp.mem sp9)
      refine va_put (D := D) (ci := 2) (v := .int gs) (ty := .int) (C := RX2) (T := TX2) (N := 14) hx hb hts hiX2 tyX2 tyX2_ok nmX2 hown hK hP hD hS qa ha rfl 2 (by decide) (hts (.fieldLink RL 39 "CuckooShopLaw$Clock" "swing" "I") (by decide +kernel)) (fun _ h9 => h9) rfl (by decide +kernel) rfl rfl (Nat.le_of_ble_eq_true rfl) dL_act_198 (fun H locs hP hD hS => ?_)
      have hP : va_P D vwCl ((cu_cw C a (nI N) mn K P) ++ (cu_sm C o r g N mn (va_up K k (upd (upd (upd (K k) 9 ga) 10 gb) 11 gs)))) H := cu_sp.put sp9 ha hD9 hP
      have hD : va_D A ((cu_cw C a (nI N) mn K P) ++ (cu_sm C o r g N mn (va_up K k (upd (upd (upd (K k) 9 ga) 10 gb) 11 gs)))) := cu_D_fst sp9.fst hD9
      refine lv_aload_n hx hb dL_act_201 rfl (lv_at hl 3 rfl) ?_
      refine lv_iload hx hb dL_act_202 (lv_at hl 1 rfl) ?_
      refine lv_aload hx hb dL_act_204 (lv_at hl 0 rfl) ?_
      obtain ⟨qa, ha⟩ := List.getElem?_of_mem (cu_sp.mem (cu_sp.inR (X := (cu_cw C a (nI N) mn K P)) (cu_sm_rd (C := C) (o := o) (r := r) (g := g) (N := N) (mn := mn) (M := (va_up K k (upd (upd (upd (K k) 9 ga) 10 gb) 11 gs))) (i := k) (X := (upd (upd (upd (K k) 9 ga) 10 gb) 11 gs)) hk (va_up_self K k (upd (upd (upd (K k) 9 ga) 10 gb) 11 gs)))))
      refine va_get (D := D) (ci := 2) (v := .int ga) (C := RX2) (T := TX2) (N := 14) hx hb hts hiX2 hown hK hP qa ha rfl 0 (by decide) (hts (.fieldLink RL 30 "CuckooShopLaw$Clock" "a" "I") (by decide +kernel)) (fun _ h9 => h9) rfl dL_act_206 ?_
      refine lv_aload hx hb dL_act_209 (lv_at hl 0 rfl) ?_
      obtain ⟨qa, ha⟩ := List.getElem?_of_mem (cu_sp.mem (cu_sp.inR (X := (cu_cw C a (nI N) mn K P)) (cu_sm_rd (C := C) (o := o) (r := r) (g := g) (N := N) (mn := mn) (M := (va_up K k (upd (upd (upd (K k) 9 ga) 10 gb) 11 gs))) (i := k) (X := (upd (upd (upd (K k) 9 ga) 10 gb) 11 gs)) hk (va_up_self K k (upd (upd (upd (K k) 9 ga) 10 gb) 11 gs)))))
      refine va_get (D := D) (ci := 2) (v := .int gb) (C := RX2) (T := TX2) (N := 14) hx hb hts hiX2 hown hK hP qa ha rfl 1 (by decide) (hts (.fieldLink RL 36 "CuckooShopLaw$Clock" "b" "I") (by decide +kernel)) (fun _ h9 => h9) rfl dL_act_211 ?_
      refine lv_aload hx hb dL_act_214 (lv_at hl 0 rfl) ?_
      obtain ⟨qa, ha⟩ := List.getElem?_of_mem (cu_sp.mem (cu_sp.inR (X := (cu_cw C a (nI N) mn K P)) (cu_sm_rd (C := C) (o := o) (r := r) (g := g) (N := N) (mn := mn) (M := (va_up K k (upd (upd (upd (K k) 9 ga) 10 gb) 11 gs))) (i := k) (X := (upd (upd (upd (K k) 9 ga) 10 gb) 11 gs)) hk (va_up_self K k (upd (upd (upd (K k) 9 ga) 10 gb) 11 gs)))))
      refine va_get (D := D) (ci := 2) (v := .int gs) (C := RX2) (T := TX2) (N := 14) hx hb hts hiX2 hown hK hP qa ha rfl 2 (by decide) (hts (.fieldLink RL 39 "CuckooShopLaw$Clock" "swing" "I") (by decide +kernel)) (fun _ h9 => h9) rfl dL_act_216 ?_
      have sp := (cu_sp.inL (Y := (cu_sm C o r g N mn (va_up K k (upd (upd (upd (K k) 9 ga) 10 gb) 11 gs)))) (cu_sp.all (W0 := (cu_cw C a (nI N) mn K P)) (W1 := (cu_cw C a (nI N) mn (va_up K k (upd (upd (upd (K k) 9 ga) 10 gb) 11 gs)) P)) cu_cw_fst))
      refine cu_callXI (vx_runV (As := [.int (nI k), .int ga, .int gb, .int gs]) (rest := []) ⟨hx, hb, hml, hown, hts⟩ ((n_gear l hlf D C a N hN mn K P k hk ga gb gs (k_bd20 ega) (by first | exact k_bd20 egb | (rw [egb]; exact k_bd20 ega)) (k_bds egs)) H.size) (cwV 4 hts gL_act_X1_gear rfl rfl rfl (by decide +kernel) ⟨Nat.le_of_ble_eq_true rfl, Nat.le_of_ble_eq_true rfl⟩) (cu_preXV (ci := 1) sp hG hP hD hT hS hA rfl rfl) rfl rfl hl.1 rfl (lv_room (Nat.le_of_ble_eq_true rfl)) dL_act_219 ⟨Nat.le_of_ble_eq_true rfl, Nat.le_of_ble_eq_true rfl⟩) sp hP hD hS hA (fun E _ _ _ _ hoE _ _ _ _ _ _ => by cases hoE) (fun H locs _ hP hD hS => ?_)
      have hP : va_P D vwCl ((cu_cw C a (nI N) mn (va_up K k (upd (upd (upd (K k) 9 ga) 10 gb) 11 gs)) P) ++ (cu_sm C o r g N mn (va_up K k (upd (upd (upd (K k) 9 ga) 10 gb) 11 gs)))) H := hP
      have hD : va_D A ((cu_cw C a (nI N) mn (va_up K k (upd (upd (upd (K k) 9 ga) 10 gb) 11 gs)) P) ++ (cu_sm C o r g N mn (va_up K k (upd (upd (upd (K k) 9 ga) 10 gb) 11 gs)))) := hD
      refine lv_aload hx hb dL_act_222 (lv_at hl 0 rfl) ?_
      refine lv_aload hx hb dL_act_224 (lv_at hl 0 rfl) ?_
      obtain ⟨qa, ha⟩ := List.getElem?_of_mem (cu_sp.mem (cu_sp.inR (X := (cu_cw C a (nI N) mn (va_up K k (upd (upd (upd (K k) 9 ga) 10 gb) 11 gs)) P)) (cu_sm_rd (C := C) (o := o) (r := r) (g := g) (N := N) (mn := mn) (M := (va_up K k (upd (upd (upd (K k) 9 ga) 10 gb) 11 gs))) (i := k) (X := (upd (upd (upd (K k) 9 ga) 10 gb) 11 gs)) hk (va_up_self K k (upd (upd (upd (K k) 9 ga) 10 gb) 11 gs)))))
      refine va_get (D := D) (ci := 2) (v := .int ga) (C := RX2) (T := TX2) (N := 14) hx hb hts hiX2 hown hK hP qa ha rfl 0 (by decide) (hts (.fieldLink RL 30 "CuckooShopLaw$Clock" "a" "I") (by decide +kernel)) (fun _ h9 => h9) rfl dL_act_226 ?_
      refine lv_aload hx hb dL_act_229 (lv_at hl 0 rfl) ?_
      obtain ⟨qa, ha⟩ := List.getElem?_of_mem (cu_sp.mem (cu_sp.inR (X := (cu_cw C a (nI N) mn (va_up K k (upd (upd (upd (K k) 9 ga) 10 gb) 11 gs)) P)) (cu_sm_rd (C := C) (o := o) (r := r) (g := g) (N := N) (mn := mn) (M := (va_up K k (upd (upd (upd (K k) 9 ga) 10 gb) 11 gs))) (i := k) (X := (upd (upd (upd (K k) 9 ga) 10 gb) 11 gs)) hk (va_up_self K k (upd (upd (upd (K k) 9 ga) 10 gb) 11 gs)))))
      refine va_get (D := D) (ci := 2) (v := .int gb) (C := RX2) (T := TX2) (N := 14) hx hb hts hiX2 hown hK hP qa ha rfl 1 (by decide) (hts (.fieldLink RL 36 "CuckooShopLaw$Clock" "b" "I") (by decide +kernel)) (fun _ h9 => h9) rfl dL_act_231 ?_
      have sp := (cu_sp.inR (X := (cu_cw C a (nI N) mn (va_up K k (upd (upd (upd (K k) 9 ga) 10 gb) 11 gs)) P)) (cu_sm_rd (C := C) (o := o) (r := r) (g := g) (N := N) (mn := mn) (M := (va_up K k (upd (upd (upd (K k) 9 ga) 10 gb) 11 gs))) (i := k) (X := (upd (upd (upd (K k) 9 ga) 10 gb) 11 gs)) hk (va_up_self K k (upd (upd (upd (K k) 9 ga) 10 gb) 11 gs))))
      refine cu_callI (va_runV (As := [.int ga, .int gb]) (rest := [.int (k_adv (upd (upd (upd (K k) 9 ga) 10 gb) 11 gs))]) ⟨hx, hb, hml, hown, hts⟩ ((m_X2_advance l D C (g k) (upd (upd (upd (K k) 9 ga) 10 gb) 11 gs) ga gb (by first | exact k_bz (k_bd20 egb).1 | (rw [egb]; exact k_bz (k_bd20 ega).1))) H.size) (cwV 2 hts gL_act_X2_advance rfl rfl rfl (by decide +kernel) ⟨Nat.le_of_ble_eq_true rfl, Nat.le_of_ble_eq_true rfl⟩) (cu_preV (ci := 2) sp hG hP hD rfl rfl) rfl rfl hl.1 rfl (lv_room (Nat.le_of_ble_eq_true rfl)) dL_act_234 ⟨Nat.le_of_ble_eq_true rfl, Nat.le_of_ble_eq_true rfl⟩) sp hP hD hS hA (fun H locs hP hD hS => ?_)
      have hP : va_P D vwCl ((cu_cw C a (nI N) mn (va_up K k (upd (upd (upd (K k) 9 ga) 10 gb) 11 gs)) P) ++ (cu_sm C o r g N mn (va_up K k (upd (upd (upd (K k) 9 ga) 10 gb) 11 gs)))) H := hP
      have hD : va_D A ((cu_cw C a (nI N) mn (va_up K k (upd (upd (upd (K k) 9 ga) 10 gb) 11 gs)) P) ++ (cu_sm C o r g N mn (va_up K k (upd (upd (upd (K k) 9 ga) 10 gb) 11 gs)))) := hD
      refine lv_icmp_ne (tgt := 244) hx hb dL_act_237 (by decide) (fun c_237 => absurd rfl c_237) (fun c_237 => ?_)
      refine lv_iconst (v := 1) hx hb dL_act_240 (by decide) ?_
      refine lv_goto (tgt := 245) hx hb dL_act_241 (by decide) ?_
      refine W.widen (k := 4) (n := 60) (Nat.le_of_ble_eq_true rfl) (Nat.le_of_ble_eq_true rfl) ?_
      exact fin (N, r, g, (va_up K k (upd (upd (upd (K k) 9 ga) 10 gb) 11 gs))) 1 _ _ _ _ rfl ⟨rfl, (k_in_put I hk (k_ok_gearN (k_in_ok I hk) (k_bd20 ega) (by first | exact k_bd20 egb | (rw [egb]; exact k_bd20 ega)) (k_bds egs)) rfl)⟩ hP hD hS dL_act_245
    · refine lv_aload hx hb dL_act_163 (lv_at hl 0 rfl) ?_
      obtain ⟨qa, ha⟩ := List.getElem?_of_mem (cu_sp.mem (cu_sp.inR (X := (cu_cw C a (nI N) mn K P)) (cu_sm_rd (C := C) (o := o) (r := r) (g := g) (N := N) (mn := mn) (M := (va_up K k (upd (K k) 9 ga))) (i := k) (X := (upd (K k) 9 ga)) hk (va_up_self K k (upd (K k) 9 ga)))))
      refine va_get (D := D) (ci := 2) (v := .int ga) (C := RX2) (T := TX2) (N := 14) hx hb hts hiX2 hown hK hP qa ha rfl 0 (by decide) (hts (.fieldLink RL 30 "CuckooShopLaw$Clock" "a" "I") (by decide +kernel)) (fun _ h9 => h9) rfl dL_act_165 ?_
      refine lv_goto (tgt := 182) hx hb dL_act_168 (by decide) ?_
      refine lv_topi (fun gb egb => ?_)
      have sp9 := (cu_sp.inR (X := (cu_cw C a (nI N) mn K P)) (cu_sm_sp (C := C) (o := o) (r := r) (g := g) (N := N) (mn := mn) (M := (va_up K k (upd (K k) 9 ga))) (M' := (va_up K k (upd (upd (K k) 9 ga) 10 gb))) (i := k) (X := (upd (K k) 9 ga)) (X' := (upd (upd (K k) 9 ga) 10 gb)) hk (va_up_self K k (upd (K k) 9 ga)) (bx_uu K k (upd (K k) 9 ga) (upd (upd (K k) 9 ga) 10 gb)).symm))
      have hD9 := hD
      obtain ⟨qa, ha⟩ := List.getElem?_of_mem (cu_sp.mem sp9)
      refine va_put (D := D) (ci := 2) (v := .int gb) (ty := .int) (C := RX2) (T := TX2) (N := 14) hx hb hts hiX2 tyX2 tyX2_ok nmX2 hown hK hP hD hS qa ha rfl 1 (by decide) (hts (.fieldLink RL 36 "CuckooShopLaw$Clock" "b" "I") (by decide +kernel)) (fun _ h9 => h9) rfl (by decide +kernel) rfl rfl (Nat.le_of_ble_eq_true rfl) dL_act_182 (fun H locs hP hD hS => ?_)
      have hP : va_P D vwCl ((cu_cw C a (nI N) mn K P) ++ (cu_sm C o r g N mn (va_up K k (upd (upd (K k) 9 ga) 10 gb)))) H := cu_sp.put sp9 ha hD9 hP
      have hD : va_D A ((cu_cw C a (nI N) mn K P) ++ (cu_sm C o r g N mn (va_up K k (upd (upd (K k) 9 ga) 10 gb)))) := cu_D_fst sp9.fst hD9
      refine lv_aload hx hb dL_act_185 (lv_at hl 0 rfl) ?_
      refine lv_iload_n hx hb dL_act_187 rfl (lv_at hl 5 rfl) ?_
      refine lv_iconst (v := 3) hx hb dL_act_188 (by decide) ?_
      refine lv_ishr hx hb dL_act_189 ?_
      refine lv_topi (fun z6 _ => ?_)
      refine lv_bipush (v := 41) hx hb dL_act_190 (by decide) ?_
      have sp := cu_sp.nil (W0 := ((cu_cw C a (nI N) mn K P) ++ (cu_sm C o r g N mn (va_up K k (upd (upd (K k) 9 ga) 10 gb)))))
      refine cu_callI (va_runS (As := [.int z6, .int 41]) (rest := [.ref (g k)]) ⟨hx, hb, hml, hown, hts⟩ ((m_L_below l D C z6 41 (by first | exact hne | decide)) H.size) (va_cwS 2 hts gL_act_L_below rfl rfl rfl (by decide +kernel) ⟨Nat.le_of_ble_eq_true rfl, Nat.le_of_ble_eq_true rfl⟩) (cu_preS sp hG hP hD) rfl rfl hl.1 rfl (lv_room (Nat.le_of_ble_eq_true rfl)) dL_act_192 ⟨Nat.le_of_ble_eq_true rfl, Nat.le_of_ble_eq_true rfl⟩) sp hP hD hS hA (fun H locs hP hD hS => ?_)
      refine lv_bipush (v := 20) hx hb dL_act_195 (by decide) ?_
      refine lv_isub hx hb dL_act_197 ?_
      refine lv_topi (fun gs egs => ?_)
      have sp9 := (cu_sp.inR (X := (cu_cw C a (nI N) mn K P)) (cu_sm_sp (C := C) (o := o) (r := r) (g := g) (N := N) (mn := mn) (M := (va_up K k (upd (upd (K k) 9 ga) 10 gb))) (M' := (va_up K k (upd (upd (upd (K k) 9 ga) 10 gb) 11 gs))) (i := k) (X := (upd (upd (K k) 9 ga) 10 gb)) (X' := (upd (upd (upd (K k) 9 ga) 10 gb) 11 gs)) hk (va_up_self K k (upd (upd (K k) 9 ga) 10 gb)) (bx_uu K k (upd (upd (K k) 9 ga) 10 gb) (upd (upd (upd (K k) 9 ga) 10 gb) 11 gs)).symm))
      have hD9 := hD
      obtain ⟨qa, ha⟩ := List.getElem?_of_mem (cu_sp.mem sp9)
      refine va_put (D := D) (ci := 2) (v := .int gs) (ty := .int) (C := RX2) (T := TX2) (N := 14) hx hb hts hiX2 tyX2 tyX2_ok nmX2 hown hK hP hD hS qa ha rfl 2 (by decide) (hts (.fieldLink RL 39 "CuckooShopLaw$Clock" "swing" "I") (by decide +kernel)) (fun _ h9 => h9) rfl (by decide +kernel) rfl rfl (Nat.le_of_ble_eq_true rfl) dL_act_198 (fun H locs hP hD hS => ?_)
      have hP : va_P D vwCl ((cu_cw C a (nI N) mn K P) ++ (cu_sm C o r g N mn (va_up K k (upd (upd (upd (K k) 9 ga) 10 gb) 11 gs)))) H := cu_sp.put sp9 ha hD9 hP
      have hD : va_D A ((cu_cw C a (nI N) mn K P) ++ (cu_sm C o r g N mn (va_up K k (upd (upd (upd (K k) 9 ga) 10 gb) 11 gs)))) := cu_D_fst sp9.fst hD9
      refine lv_aload_n hx hb dL_act_201 rfl (lv_at hl 3 rfl) ?_
      refine lv_iload hx hb dL_act_202 (lv_at hl 1 rfl) ?_
      refine lv_aload hx hb dL_act_204 (lv_at hl 0 rfl) ?_
      obtain ⟨qa, ha⟩ := List.getElem?_of_mem (cu_sp.mem (cu_sp.inR (X := (cu_cw C a (nI N) mn K P)) (cu_sm_rd (C := C) (o := o) (r := r) (g := g) (N := N) (mn := mn) (M := (va_up K k (upd (upd (upd (K k) 9 ga) 10 gb) 11 gs))) (i := k) (X := (upd (upd (upd (K k) 9 ga) 10 gb) 11 gs)) hk (va_up_self K k (upd (upd (upd (K k) 9 ga) 10 gb) 11 gs)))))
      refine va_get (D := D) (ci := 2) (v := .int ga) (C := RX2) (T := TX2) (N := 14) hx hb hts hiX2 hown hK hP qa ha rfl 0 (by decide) (hts (.fieldLink RL 30 "CuckooShopLaw$Clock" "a" "I") (by decide +kernel)) (fun _ h9 => h9) rfl dL_act_206 ?_
      refine lv_aload hx hb dL_act_209 (lv_at hl 0 rfl) ?_
      obtain ⟨qa, ha⟩ := List.getElem?_of_mem (cu_sp.mem (cu_sp.inR (X := (cu_cw C a (nI N) mn K P)) (cu_sm_rd (C := C) (o := o) (r := r) (g := g) (N := N) (mn := mn) (M := (va_up K k (upd (upd (upd (K k) 9 ga) 10 gb) 11 gs))) (i := k) (X := (upd (upd (upd (K k) 9 ga) 10 gb) 11 gs)) hk (va_up_self K k (upd (upd (upd (K k) 9 ga) 10 gb) 11 gs)))))
      refine va_get (D := D) (ci := 2) (v := .int gb) (C := RX2) (T := TX2) (N := 14) hx hb hts hiX2 hown hK hP qa ha rfl 1 (by decide) (hts (.fieldLink RL 36 "CuckooShopLaw$Clock" "b" "I") (by decide +kernel)) (fun _ h9 => h9) rfl dL_act_211 ?_
      refine lv_aload hx hb dL_act_214 (lv_at hl 0 rfl) ?_
      obtain ⟨qa, ha⟩ := List.getElem?_of_mem (cu_sp.mem (cu_sp.inR (X := (cu_cw C a (nI N) mn K P)) (cu_sm_rd (C := C) (o := o) (r := r) (g := g) (N := N) (mn := mn) (M := (va_up K k (upd (upd (upd (K k) 9 ga) 10 gb) 11 gs))) (i := k) (X := (upd (upd (upd (K k) 9 ga) 10 gb) 11 gs)) hk (va_up_self K k (upd (upd (upd (K k) 9 ga) 10 gb) 11 gs)))))
      refine va_get (D := D) (ci := 2) (v := .int gs) (C := RX2) (T := TX2) (N := 14) hx hb hts hiX2 hown hK hP qa ha rfl 2 (by decide) (hts (.fieldLink RL 39 "CuckooShopLaw$Clock" "swing" "I") (by decide +kernel)) (fun _ h9 => h9) rfl dL_act_216 ?_
      have sp := (cu_sp.inL (Y := (cu_sm C o r g N mn (va_up K k (upd (upd (upd (K k) 9 ga) 10 gb) 11 gs)))) (cu_sp.all (W0 := (cu_cw C a (nI N) mn K P)) (W1 := (cu_cw C a (nI N) mn (va_up K k (upd (upd (upd (K k) 9 ga) 10 gb) 11 gs)) P)) cu_cw_fst))
      refine cu_callXI (vx_runV (As := [.int (nI k), .int ga, .int gb, .int gs]) (rest := []) ⟨hx, hb, hml, hown, hts⟩ ((n_gear l hlf D C a N hN mn K P k hk ga gb gs (k_bd20 ega) (by first | exact k_bd20 egb | (rw [egb]; exact k_bd20 ega)) (k_bds egs)) H.size) (cwV 4 hts gL_act_X1_gear rfl rfl rfl (by decide +kernel) ⟨Nat.le_of_ble_eq_true rfl, Nat.le_of_ble_eq_true rfl⟩) (cu_preXV (ci := 1) sp hG hP hD hT hS hA rfl rfl) rfl rfl hl.1 rfl (lv_room (Nat.le_of_ble_eq_true rfl)) dL_act_219 ⟨Nat.le_of_ble_eq_true rfl, Nat.le_of_ble_eq_true rfl⟩) sp hP hD hS hA (fun E _ _ _ _ hoE _ _ _ _ _ _ => by cases hoE) (fun H locs _ hP hD hS => ?_)
      have hP : va_P D vwCl ((cu_cw C a (nI N) mn (va_up K k (upd (upd (upd (K k) 9 ga) 10 gb) 11 gs)) P) ++ (cu_sm C o r g N mn (va_up K k (upd (upd (upd (K k) 9 ga) 10 gb) 11 gs)))) H := hP
      have hD : va_D A ((cu_cw C a (nI N) mn (va_up K k (upd (upd (upd (K k) 9 ga) 10 gb) 11 gs)) P) ++ (cu_sm C o r g N mn (va_up K k (upd (upd (upd (K k) 9 ga) 10 gb) 11 gs)))) := hD
      refine lv_aload hx hb dL_act_222 (lv_at hl 0 rfl) ?_
      refine lv_aload hx hb dL_act_224 (lv_at hl 0 rfl) ?_
      obtain ⟨qa, ha⟩ := List.getElem?_of_mem (cu_sp.mem (cu_sp.inR (X := (cu_cw C a (nI N) mn (va_up K k (upd (upd (upd (K k) 9 ga) 10 gb) 11 gs)) P)) (cu_sm_rd (C := C) (o := o) (r := r) (g := g) (N := N) (mn := mn) (M := (va_up K k (upd (upd (upd (K k) 9 ga) 10 gb) 11 gs))) (i := k) (X := (upd (upd (upd (K k) 9 ga) 10 gb) 11 gs)) hk (va_up_self K k (upd (upd (upd (K k) 9 ga) 10 gb) 11 gs)))))
      refine va_get (D := D) (ci := 2) (v := .int ga) (C := RX2) (T := TX2) (N := 14) hx hb hts hiX2 hown hK hP qa ha rfl 0 (by decide) (hts (.fieldLink RL 30 "CuckooShopLaw$Clock" "a" "I") (by decide +kernel)) (fun _ h9 => h9) rfl dL_act_226 ?_
      refine lv_aload hx hb dL_act_229 (lv_at hl 0 rfl) ?_
      obtain ⟨qa, ha⟩ := List.getElem?_of_mem (cu_sp.mem (cu_sp.inR (X := (cu_cw C a (nI N) mn (va_up K k (upd (upd (upd (K k) 9 ga) 10 gb) 11 gs)) P)) (cu_sm_rd (C := C) (o := o) (r := r) (g := g) (N := N) (mn := mn) (M := (va_up K k (upd (upd (upd (K k) 9 ga) 10 gb) 11 gs))) (i := k) (X := (upd (upd (upd (K k) 9 ga) 10 gb) 11 gs)) hk (va_up_self K k (upd (upd (upd (K k) 9 ga) 10 gb) 11 gs)))))
      refine va_get (D := D) (ci := 2) (v := .int gb) (C := RX2) (T := TX2) (N := 14) hx hb hts hiX2 hown hK hP qa ha rfl 1 (by decide) (hts (.fieldLink RL 36 "CuckooShopLaw$Clock" "b" "I") (by decide +kernel)) (fun _ h9 => h9) rfl dL_act_231 ?_
      have sp := (cu_sp.inR (X := (cu_cw C a (nI N) mn (va_up K k (upd (upd (upd (K k) 9 ga) 10 gb) 11 gs)) P)) (cu_sm_rd (C := C) (o := o) (r := r) (g := g) (N := N) (mn := mn) (M := (va_up K k (upd (upd (upd (K k) 9 ga) 10 gb) 11 gs))) (i := k) (X := (upd (upd (upd (K k) 9 ga) 10 gb) 11 gs)) hk (va_up_self K k (upd (upd (upd (K k) 9 ga) 10 gb) 11 gs))))
      refine cu_callI (va_runV (As := [.int ga, .int gb]) (rest := [.int (k_adv (upd (upd (upd (K k) 9 ga) 10 gb) 11 gs))]) ⟨hx, hb, hml, hown, hts⟩ ((m_X2_advance l D C (g k) (upd (upd (upd (K k) 9 ga) 10 gb) 11 gs) ga gb (by first | exact k_bz (k_bd20 egb).1 | (rw [egb]; exact k_bz (k_bd20 ega).1))) H.size) (cwV 2 hts gL_act_X2_advance rfl rfl rfl (by decide +kernel) ⟨Nat.le_of_ble_eq_true rfl, Nat.le_of_ble_eq_true rfl⟩) (cu_preV (ci := 2) sp hG hP hD rfl rfl) rfl rfl hl.1 rfl (lv_room (Nat.le_of_ble_eq_true rfl)) dL_act_234 ⟨Nat.le_of_ble_eq_true rfl, Nat.le_of_ble_eq_true rfl⟩) sp hP hD hS hA (fun H locs hP hD hS => ?_)
      have hP : va_P D vwCl ((cu_cw C a (nI N) mn (va_up K k (upd (upd (upd (K k) 9 ga) 10 gb) 11 gs)) P) ++ (cu_sm C o r g N mn (va_up K k (upd (upd (upd (K k) 9 ga) 10 gb) 11 gs)))) H := hP
      have hD : va_D A ((cu_cw C a (nI N) mn (va_up K k (upd (upd (upd (K k) 9 ga) 10 gb) 11 gs)) P) ++ (cu_sm C o r g N mn (va_up K k (upd (upd (upd (K k) 9 ga) 10 gb) 11 gs)))) := hD
      refine lv_icmp_ne (tgt := 244) hx hb dL_act_237 (by decide) (fun c_237 => absurd rfl c_237) (fun c_237 => ?_)
      refine lv_iconst (v := 1) hx hb dL_act_240 (by decide) ?_
      refine lv_goto (tgt := 245) hx hb dL_act_241 (by decide) ?_
      refine W.widen (k := 4) (n := 60) (Nat.le_of_ble_eq_true rfl) (Nat.le_of_ble_eq_true rfl) ?_
      exact fin (N, r, g, (va_up K k (upd (upd (upd (K k) 9 ga) 10 gb) 11 gs))) 1 _ _ _ _ rfl ⟨rfl, (k_in_put I hk (k_ok_gearN (k_in_ok I hk) (k_bd20 ega) (by first | exact k_bd20 egb | (rw [egb]; exact k_bd20 ega)) (k_bds egs)) rfl)⟩ hP hD hS dL_act_245
  by_cases s_2 : y = 2
  · subst s_2
    refine lv_tableIn (off := 79) (tgt := 134) hx hb dL_act_55 (by decide) (by decide) (by decide) (by decide) ?_
    refine lv_aload hx hb dL_act_134 (lv_at hl 0 rfl) ?_
    refine lv_bipush (v := 20) hx hb dL_act_136 (by decide) ?_
    refine lv_iload_n hx hb dL_act_138 rfl (lv_at hl 5 rfl) ?_
    refine lv_iconst (v := 2) hx hb dL_act_139 (by decide) ?_
    refine lv_ishr hx hb dL_act_140 ?_
    refine lv_topi (fun z7 _ => ?_)
    refine lv_bipush (v := 21) hx hb dL_act_141 (by decide) ?_
    have sp := cu_sp.nil (W0 := ((cu_cw C a (nI N) mn K P) ++ (cu_sm C o r g N mn K)))
    refine cu_callI (va_runS (As := [.int z7, .int 21]) (rest := [.int 20, .ref (g k)]) ⟨hx, hb, hml, hown, hts⟩ ((m_L_below l D C z7 21 (by first | exact hne | decide)) H.size) (va_cwS 2 hts gL_act_L_below rfl rfl rfl (by decide +kernel) ⟨Nat.le_of_ble_eq_true rfl, Nat.le_of_ble_eq_true rfl⟩) (cu_preS sp hG hP hD) rfl rfl hl.1 rfl (lv_room (Nat.le_of_ble_eq_true rfl)) dL_act_143 ⟨Nat.le_of_ble_eq_true rfl, Nat.le_of_ble_eq_true rfl⟩) sp hP hD hS hA (fun H locs hP hD hS => ?_)
    refine lv_iadd hx hb dL_act_146 ?_
    refine lv_topi (fun ga ega => ?_)
    have sp9 := (cu_sp.inR (X := (cu_cw C a (nI N) mn K P)) (cu_sm_sp (C := C) (o := o) (r := r) (g := g) (N := N) (mn := mn) (M := K) (M' := (va_up K k (upd (K k) 9 ga))) (i := k) (X := (K k)) (X' := (upd (K k) 9 ga)) hk rfl rfl))
    have hD9 := hD
    obtain ⟨qa, ha⟩ := List.getElem?_of_mem (cu_sp.mem sp9)
    refine va_put (D := D) (ci := 2) (v := .int ga) (ty := .int) (C := RX2) (T := TX2) (N := 14) hx hb hts hiX2 tyX2 tyX2_ok nmX2 hown hK hP hD hS qa ha rfl 0 (by decide) (hts (.fieldLink RL 30 "CuckooShopLaw$Clock" "a" "I") (by decide +kernel)) (fun _ h9 => h9) rfl (by decide +kernel) rfl rfl (Nat.le_of_ble_eq_true rfl) dL_act_147 (fun H locs hP hD hS => ?_)
    have hP : va_P D vwCl ((cu_cw C a (nI N) mn K P) ++ (cu_sm C o r g N mn (va_up K k (upd (K k) 9 ga)))) H := cu_sp.put sp9 ha hD9 hP
    have hD : va_D A ((cu_cw C a (nI N) mn K P) ++ (cu_sm C o r g N mn (va_up K k (upd (K k) 9 ga)))) := cu_D_fst sp9.fst hD9
    refine lv_aload hx hb dL_act_150 (lv_at hl 0 rfl) ?_
    refine lv_iload_n hx hb dL_act_152 rfl (lv_at hl 5 rfl) ?_
    refine lv_bipush (v := 7) hx hb dL_act_153 (by decide) ?_
    refine lv_ishr hx hb dL_act_155 ?_
    refine lv_topi (fun z8 _ => ?_)
    refine lv_iconst (v := 3) hx hb dL_act_156 (by decide) ?_
    have sp := cu_sp.nil (W0 := ((cu_cw C a (nI N) mn K P) ++ (cu_sm C o r g N mn (va_up K k (upd (K k) 9 ga)))))
    refine cu_callI (va_runS (As := [.int z8, .int 3]) (rest := [.ref (g k)]) ⟨hx, hb, hml, hown, hts⟩ ((m_L_below l D C z8 3 (by first | exact hne | decide)) H.size) (va_cwS 2 hts gL_act_L_below rfl rfl rfl (by decide +kernel) ⟨Nat.le_of_ble_eq_true rfl, Nat.le_of_ble_eq_true rfl⟩) (cu_preS sp hG hP hD) rfl rfl hl.1 rfl (lv_room (Nat.le_of_ble_eq_true rfl)) dL_act_157 ⟨Nat.le_of_ble_eq_true rfl, Nat.le_of_ble_eq_true rfl⟩) sp hP hD hS hA (fun H locs hP hD hS => ?_)
    refine lv_if_ne (tgt := 171) hx hb dL_act_160 (by decide) (fun c_160 => ?_) (fun c_160 => ?_)
    · refine lv_bipush (v := 20) hx hb dL_act_171 (by decide) ?_
      refine lv_iload_n hx hb dL_act_173 rfl (lv_at hl 5 rfl) ?_
      refine lv_iconst (v := 4) hx hb dL_act_174 (by decide) ?_
      refine lv_ishr hx hb dL_act_175 ?_
      refine lv_topi (fun z9 _ => ?_)
      refine lv_bipush (v := 21) hx hb dL_act_176 (by decide) ?_
      have sp := cu_sp.nil (W0 := ((cu_cw C a (nI N) mn K P) ++ (cu_sm C o r g N mn (va_up K k (upd (K k) 9 ga)))))
      refine cu_callI (va_runS (As := [.int z9, .int 21]) (rest := [.int 20, .ref (g k)]) ⟨hx, hb, hml, hown, hts⟩ ((m_L_below l D C z9 21 (by first | exact hne | decide)) H.size) (va_cwS 2 hts gL_act_L_below rfl rfl rfl (by decide +kernel) ⟨Nat.le_of_ble_eq_true rfl, Nat.le_of_ble_eq_true rfl⟩) (cu_preS sp hG hP hD) rfl rfl hl.1 rfl (lv_room (Nat.le_of_ble_eq_true rfl)) dL_act_178 ⟨Nat.le_of_ble_eq_true rfl, Nat.le_of_ble_eq_true rfl⟩) sp hP hD hS hA (fun H locs hP hD hS => ?_)
      refine lv_iadd hx hb dL_act_181 ?_
      refine lv_topi (fun gb egb => ?_)
      have sp9 := (cu_sp.inR (X := (cu_cw C a (nI N) mn K P)) (cu_sm_sp (C := C) (o := o) (r := r) (g := g) (N := N) (mn := mn) (M := (va_up K k (upd (K k) 9 ga))) (M' := (va_up K k (upd (upd (K k) 9 ga) 10 gb))) (i := k) (X := (upd (K k) 9 ga)) (X' := (upd (upd (K k) 9 ga) 10 gb)) hk (va_up_self K k (upd (K k) 9 ga)) (bx_uu K k (upd (K k) 9 ga) (upd (upd (K k) 9 ga) 10 gb)).symm))
      have hD9 := hD
      obtain ⟨qa, ha⟩ := List.getElem?_of_mem (cu_sp.mem sp9)
      refine va_put (D := D) (ci := 2) (v := .int gb) (ty := .int) (C := RX2) (T := TX2) (N := 14) hx hb hts hiX2 tyX2 tyX2_ok nmX2 hown hK hP hD hS qa ha rfl 1 (by decide) (hts (.fieldLink RL 36 "CuckooShopLaw$Clock" "b" "I") (by decide +kernel)) (fun _ h9 => h9) rfl (by decide +kernel) rfl rfl (Nat.le_of_ble_eq_true rfl) dL_act_182 (fun H locs hP hD hS => ?_)
      have hP : va_P D vwCl ((cu_cw C a (nI N) mn K P) ++ (cu_sm C o r g N mn (va_up K k (upd (upd (K k) 9 ga) 10 gb)))) H := cu_sp.put sp9 ha hD9 hP
      have hD : va_D A ((cu_cw C a (nI N) mn K P) ++ (cu_sm C o r g N mn (va_up K k (upd (upd (K k) 9 ga) 10 gb)))) := cu_D_fst sp9.fst hD9
      refine lv_aload hx hb dL_act_185 (lv_at hl 0 rfl) ?_
      refine lv_iload_n hx hb dL_act_187 rfl (lv_at hl 5 rfl) ?_
      refine lv_iconst (v := 3) hx hb dL_act_188 (by decide) ?_
      refine lv_ishr hx hb dL_act_189 ?_
      refine lv_topi (fun z10 _ => ?_)
      refine lv_bipush (v := 41) hx hb dL_act_190 (by decide) ?_
      have sp := cu_sp.nil (W0 := ((cu_cw C a (nI N) mn K P) ++ (cu_sm C o r g N mn (va_up K k (upd (upd (K k) 9 ga) 10 gb)))))
      refine cu_callI (va_runS (As := [.int z10, .int 41]) (rest := [.ref (g k)]) ⟨hx, hb, hml, hown, hts⟩ ((m_L_below l D C z10 41 (by first | exact hne | decide)) H.size) (va_cwS 2 hts gL_act_L_below rfl rfl rfl (by decide +kernel) ⟨Nat.le_of_ble_eq_true rfl, Nat.le_of_ble_eq_true rfl⟩) (cu_preS sp hG hP hD) rfl rfl hl.1 rfl (lv_room (Nat.le_of_ble_eq_true rfl)) dL_act_192 ⟨Nat.le_of_ble_eq_true rfl, Nat.le_of_ble_eq_true rfl⟩) sp hP hD hS hA (fun H locs hP hD hS => ?_)
      refine lv_bipush (v := 20) hx hb dL_act_195 (by decide) ?_
      refine lv_isub hx hb dL_act_197 ?_
      refine lv_topi (fun gs egs => ?_)
      have sp9 := (cu_sp.inR (X := (cu_cw C a (nI N) mn K P)) (cu_sm_sp (C := C) (o := o) (r := r) (g := g) (N := N) (mn := mn) (M := (va_up K k (upd (upd (K k) 9 ga) 10 gb))) (M' := (va_up K k (upd (upd (upd (K k) 9 ga) 10 gb) 11 gs))) (i := k) (X := (upd (upd (K k) 9 ga) 10 gb)) (X' := (upd (upd (upd (K k) 9 ga) 10 gb) 11 gs)) hk (va_up_self K k (upd (upd (K k) 9 ga) 10 gb)) (bx_uu K k (upd (upd (K k) 9 ga) 10 gb) (upd (upd (upd (K k) 9 ga) 10 gb) 11 gs)).symm))
      have hD9 := hD
      obtain ⟨qa, ha⟩ := List.getElem?_of_mem (cu_sp.mem sp9)
      refine va_put (D := D) (ci := 2) (v := .int gs) (ty := .int) (C := RX2) (T := TX2) (N := 14) hx hb hts hiX2 tyX2 tyX2_ok nmX2 hown hK hP hD hS qa ha rfl 2 (by decide) (hts (.fieldLink RL 39 "CuckooShopLaw$Clock" "swing" "I") (by decide +kernel)) (fun _ h9 => h9) rfl (by decide +kernel) rfl rfl (Nat.le_of_ble_eq_true rfl) dL_act_198 (fun H locs hP hD hS => ?_)
      have hP : va_P D vwCl ((cu_cw C a (nI N) mn K P) ++ (cu_sm C o r g N mn (va_up K k (upd (upd (upd (K k) 9 ga) 10 gb) 11 gs)))) H := cu_sp.put sp9 ha hD9 hP
      have hD : va_D A ((cu_cw C a (nI N) mn K P) ++ (cu_sm C o r g N mn (va_up K k (upd (upd (upd (K k) 9 ga) 10 gb) 11 gs)))) := cu_D_fst sp9.fst hD9
      refine lv_aload_n hx hb dL_act_201 rfl (lv_at hl 3 rfl) ?_
      refine lv_iload hx hb dL_act_202 (lv_at hl 1 rfl) ?_
      refine lv_aload hx hb dL_act_204 (lv_at hl 0 rfl) ?_
      obtain ⟨qa, ha⟩ := List.getElem?_of_mem (cu_sp.mem (cu_sp.inR (X := (cu_cw C a (nI N) mn K P)) (cu_sm_rd (C := C) (o := o) (r := r) (g := g) (N := N) (mn := mn) (M := (va_up K k (upd (upd (upd (K k) 9 ga) 10 gb) 11 gs))) (i := k) (X := (upd (upd (upd (K k) 9 ga) 10 gb) 11 gs)) hk (va_up_self K k (upd (upd (upd (K k) 9 ga) 10 gb) 11 gs)))))
      refine va_get (D := D) (ci := 2) (v := .int ga) (C := RX2) (T := TX2) (N := 14) hx hb hts hiX2 hown hK hP qa ha rfl 0 (by decide) (hts (.fieldLink RL 30 "CuckooShopLaw$Clock" "a" "I") (by decide +kernel)) (fun _ h9 => h9) rfl dL_act_206 ?_
      refine lv_aload hx hb dL_act_209 (lv_at hl 0 rfl) ?_
      obtain ⟨qa, ha⟩ := List.getElem?_of_mem (cu_sp.mem (cu_sp.inR (X := (cu_cw C a (nI N) mn K P)) (cu_sm_rd (C := C) (o := o) (r := r) (g := g) (N := N) (mn := mn) (M := (va_up K k (upd (upd (upd (K k) 9 ga) 10 gb) 11 gs))) (i := k) (X := (upd (upd (upd (K k) 9 ga) 10 gb) 11 gs)) hk (va_up_self K k (upd (upd (upd (K k) 9 ga) 10 gb) 11 gs)))))
      refine va_get (D := D) (ci := 2) (v := .int gb) (C := RX2) (T := TX2) (N := 14) hx hb hts hiX2 hown hK hP qa ha rfl 1 (by decide) (hts (.fieldLink RL 36 "CuckooShopLaw$Clock" "b" "I") (by decide +kernel)) (fun _ h9 => h9) rfl dL_act_211 ?_
      refine lv_aload hx hb dL_act_214 (lv_at hl 0 rfl) ?_
      obtain ⟨qa, ha⟩ := List.getElem?_of_mem (cu_sp.mem (cu_sp.inR (X := (cu_cw C a (nI N) mn K P)) (cu_sm_rd (C := C) (o := o) (r := r) (g := g) (N := N) (mn := mn) (M := (va_up K k (upd (upd (upd (K k) 9 ga) 10 gb) 11 gs))) (i := k) (X := (upd (upd (upd (K k) 9 ga) 10 gb) 11 gs)) hk (va_up_self K k (upd (upd (upd (K k) 9 ga) 10 gb) 11 gs)))))
      refine va_get (D := D) (ci := 2) (v := .int gs) (C := RX2) (T := TX2) (N := 14) hx hb hts hiX2 hown hK hP qa ha rfl 2 (by decide) (hts (.fieldLink RL 39 "CuckooShopLaw$Clock" "swing" "I") (by decide +kernel)) (fun _ h9 => h9) rfl dL_act_216 ?_
      have sp := (cu_sp.inL (Y := (cu_sm C o r g N mn (va_up K k (upd (upd (upd (K k) 9 ga) 10 gb) 11 gs)))) (cu_sp.all (W0 := (cu_cw C a (nI N) mn K P)) (W1 := (cu_cw C a (nI N) mn (va_up K k (upd (upd (upd (K k) 9 ga) 10 gb) 11 gs)) P)) cu_cw_fst))
      refine cu_callXI (vx_runV (As := [.int (nI k), .int ga, .int gb, .int gs]) (rest := []) ⟨hx, hb, hml, hown, hts⟩ ((n_gear l hlf D C a N hN mn K P k hk ga gb gs (k_bd20 ega) (by first | exact k_bd20 egb | (rw [egb]; exact k_bd20 ega)) (k_bds egs)) H.size) (cwV 4 hts gL_act_X1_gear rfl rfl rfl (by decide +kernel) ⟨Nat.le_of_ble_eq_true rfl, Nat.le_of_ble_eq_true rfl⟩) (cu_preXV (ci := 1) sp hG hP hD hT hS hA rfl rfl) rfl rfl hl.1 rfl (lv_room (Nat.le_of_ble_eq_true rfl)) dL_act_219 ⟨Nat.le_of_ble_eq_true rfl, Nat.le_of_ble_eq_true rfl⟩) sp hP hD hS hA (fun E _ _ _ _ hoE _ _ _ _ _ _ => by cases hoE) (fun H locs _ hP hD hS => ?_)
      have hP : va_P D vwCl ((cu_cw C a (nI N) mn (va_up K k (upd (upd (upd (K k) 9 ga) 10 gb) 11 gs)) P) ++ (cu_sm C o r g N mn (va_up K k (upd (upd (upd (K k) 9 ga) 10 gb) 11 gs)))) H := hP
      have hD : va_D A ((cu_cw C a (nI N) mn (va_up K k (upd (upd (upd (K k) 9 ga) 10 gb) 11 gs)) P) ++ (cu_sm C o r g N mn (va_up K k (upd (upd (upd (K k) 9 ga) 10 gb) 11 gs)))) := hD
      refine lv_aload hx hb dL_act_222 (lv_at hl 0 rfl) ?_
      refine lv_aload hx hb dL_act_224 (lv_at hl 0 rfl) ?_
      obtain ⟨qa, ha⟩ := List.getElem?_of_mem (cu_sp.mem (cu_sp.inR (X := (cu_cw C a (nI N) mn (va_up K k (upd (upd (upd (K k) 9 ga) 10 gb) 11 gs)) P)) (cu_sm_rd (C := C) (o := o) (r := r) (g := g) (N := N) (mn := mn) (M := (va_up K k (upd (upd (upd (K k) 9 ga) 10 gb) 11 gs))) (i := k) (X := (upd (upd (upd (K k) 9 ga) 10 gb) 11 gs)) hk (va_up_self K k (upd (upd (upd (K k) 9 ga) 10 gb) 11 gs)))))
      refine va_get (D := D) (ci := 2) (v := .int ga) (C := RX2) (T := TX2) (N := 14) hx hb hts hiX2 hown hK hP qa ha rfl 0 (by decide) (hts (.fieldLink RL 30 "CuckooShopLaw$Clock" "a" "I") (by decide +kernel)) (fun _ h9 => h9) rfl dL_act_226 ?_
      refine lv_aload hx hb dL_act_229 (lv_at hl 0 rfl) ?_
      obtain ⟨qa, ha⟩ := List.getElem?_of_mem (cu_sp.mem (cu_sp.inR (X := (cu_cw C a (nI N) mn (va_up K k (upd (upd (upd (K k) 9 ga) 10 gb) 11 gs)) P)) (cu_sm_rd (C := C) (o := o) (r := r) (g := g) (N := N) (mn := mn) (M := (va_up K k (upd (upd (upd (K k) 9 ga) 10 gb) 11 gs))) (i := k) (X := (upd (upd (upd (K k) 9 ga) 10 gb) 11 gs)) hk (va_up_self K k (upd (upd (upd (K k) 9 ga) 10 gb) 11 gs)))))
      refine va_get (D := D) (ci := 2) (v := .int gb) (C := RX2) (T := TX2) (N := 14) hx hb hts hiX2 hown hK hP qa ha rfl 1 (by decide) (hts (.fieldLink RL 36 "CuckooShopLaw$Clock" "b" "I") (by decide +kernel)) (fun _ h9 => h9) rfl dL_act_231 ?_
      have sp := (cu_sp.inR (X := (cu_cw C a (nI N) mn (va_up K k (upd (upd (upd (K k) 9 ga) 10 gb) 11 gs)) P)) (cu_sm_rd (C := C) (o := o) (r := r) (g := g) (N := N) (mn := mn) (M := (va_up K k (upd (upd (upd (K k) 9 ga) 10 gb) 11 gs))) (i := k) (X := (upd (upd (upd (K k) 9 ga) 10 gb) 11 gs)) hk (va_up_self K k (upd (upd (upd (K k) 9 ga) 10 gb) 11 gs))))
      refine cu_callI (va_runV (As := [.int ga, .int gb]) (rest := [.int (k_adv (upd (upd (upd (K k) 9 ga) 10 gb) 11 gs))]) ⟨hx, hb, hml, hown, hts⟩ ((m_X2_advance l D C (g k) (upd (upd (upd (K k) 9 ga) 10 gb) 11 gs) ga gb (by first | exact k_bz (k_bd20 egb).1 | (rw [egb]; exact k_bz (k_bd20 ega).1))) H.size) (cwV 2 hts gL_act_X2_advance rfl rfl rfl (by decide +kernel) ⟨Nat.le_of_ble_eq_true rfl, Nat.le_of_ble_eq_true rfl⟩) (cu_preV (ci := 2) sp hG hP hD rfl rfl) rfl rfl hl.1 rfl (lv_room (Nat.le_of_ble_eq_true rfl)) dL_act_234 ⟨Nat.le_of_ble_eq_true rfl, Nat.le_of_ble_eq_true rfl⟩) sp hP hD hS hA (fun H locs hP hD hS => ?_)
      have hP : va_P D vwCl ((cu_cw C a (nI N) mn (va_up K k (upd (upd (upd (K k) 9 ga) 10 gb) 11 gs)) P) ++ (cu_sm C o r g N mn (va_up K k (upd (upd (upd (K k) 9 ga) 10 gb) 11 gs)))) H := hP
      have hD : va_D A ((cu_cw C a (nI N) mn (va_up K k (upd (upd (upd (K k) 9 ga) 10 gb) 11 gs)) P) ++ (cu_sm C o r g N mn (va_up K k (upd (upd (upd (K k) 9 ga) 10 gb) 11 gs)))) := hD
      refine lv_icmp_ne (tgt := 244) hx hb dL_act_237 (by decide) (fun c_237 => absurd rfl c_237) (fun c_237 => ?_)
      refine lv_iconst (v := 1) hx hb dL_act_240 (by decide) ?_
      refine lv_goto (tgt := 245) hx hb dL_act_241 (by decide) ?_
      refine W.widen (k := 4) (n := 60) (Nat.le_of_ble_eq_true rfl) (Nat.le_of_ble_eq_true rfl) ?_
      exact fin (N, r, g, (va_up K k (upd (upd (upd (K k) 9 ga) 10 gb) 11 gs))) 1 _ _ _ _ rfl ⟨rfl, (k_in_put I hk (k_ok_gearN (k_in_ok I hk) (k_bd20 ega) (by first | exact k_bd20 egb | (rw [egb]; exact k_bd20 ega)) (k_bds egs)) rfl)⟩ hP hD hS dL_act_245
    · refine lv_aload hx hb dL_act_163 (lv_at hl 0 rfl) ?_
      obtain ⟨qa, ha⟩ := List.getElem?_of_mem (cu_sp.mem (cu_sp.inR (X := (cu_cw C a (nI N) mn K P)) (cu_sm_rd (C := C) (o := o) (r := r) (g := g) (N := N) (mn := mn) (M := (va_up K k (upd (K k) 9 ga))) (i := k) (X := (upd (K k) 9 ga)) hk (va_up_self K k (upd (K k) 9 ga)))))
      refine va_get (D := D) (ci := 2) (v := .int ga) (C := RX2) (T := TX2) (N := 14) hx hb hts hiX2 hown hK hP qa ha rfl 0 (by decide) (hts (.fieldLink RL 30 "CuckooShopLaw$Clock" "a" "I") (by decide +kernel)) (fun _ h9 => h9) rfl dL_act_165 ?_
      refine lv_goto (tgt := 182) hx hb dL_act_168 (by decide) ?_
      refine lv_topi (fun gb egb => ?_)
      have sp9 := (cu_sp.inR (X := (cu_cw C a (nI N) mn K P)) (cu_sm_sp (C := C) (o := o) (r := r) (g := g) (N := N) (mn := mn) (M := (va_up K k (upd (K k) 9 ga))) (M' := (va_up K k (upd (upd (K k) 9 ga) 10 gb))) (i := k) (X := (upd (K k) 9 ga)) (X' := (upd (upd (K k) 9 ga) 10 gb)) hk (va_up_self K k (upd (K k) 9 ga)) (bx_uu K k (upd (K k) 9 ga) (upd (upd (K k) 9 ga) 10 gb)).symm))
      have hD9 := hD
      obtain ⟨qa, ha⟩ := List.getElem?_of_mem (cu_sp.mem sp9)
      refine va_put (D := D) (ci := 2) (v := .int gb) (ty := .int) (C := RX2) (T := TX2) (N := 14) hx hb hts hiX2 tyX2 tyX2_ok nmX2 hown hK hP hD hS qa ha rfl 1 (by decide) (hts (.fieldLink RL 36 "CuckooShopLaw$Clock" "b" "I") (by decide +kernel)) (fun _ h9 => h9) rfl (by decide +kernel) rfl rfl (Nat.le_of_ble_eq_true rfl) dL_act_182 (fun H locs hP hD hS => ?_)
      have hP : va_P D vwCl ((cu_cw C a (nI N) mn K P) ++ (cu_sm C o r g N mn (va_up K k (upd (upd (K k) 9 ga) 10 gb)))) H := cu_sp.put sp9 ha hD9 hP
      have hD : va_D A ((cu_cw C a (nI N) mn K P) ++ (cu_sm C o r g N mn (va_up K k (upd (upd (K k) 9 ga) 10 gb)))) := cu_D_fst sp9.fst hD9
      refine lv_aload hx hb dL_act_185 (lv_at hl 0 rfl) ?_
      refine lv_iload_n hx hb dL_act_187 rfl (lv_at hl 5 rfl) ?_
      refine lv_iconst (v := 3) hx hb dL_act_188 (by decide) ?_
      refine lv_ishr hx hb dL_act_189 ?_
      refine lv_topi (fun z11 _ => ?_)
      refine lv_bipush (v := 41) hx hb dL_act_190 (by decide) ?_
      have sp := cu_sp.nil (W0 := ((cu_cw C a (nI N) mn K P) ++ (cu_sm C o r g N mn (va_up K k (upd (upd (K k) 9 ga) 10 gb)))))
      refine cu_callI (va_runS (As := [.int z11, .int 41]) (rest := [.ref (g k)]) ⟨hx, hb, hml, hown, hts⟩ ((m_L_below l D C z11 41 (by first | exact hne | decide)) H.size) (va_cwS 2 hts gL_act_L_below rfl rfl rfl (by decide +kernel) ⟨Nat.le_of_ble_eq_true rfl, Nat.le_of_ble_eq_true rfl⟩) (cu_preS sp hG hP hD) rfl rfl hl.1 rfl (lv_room (Nat.le_of_ble_eq_true rfl)) dL_act_192 ⟨Nat.le_of_ble_eq_true rfl, Nat.le_of_ble_eq_true rfl⟩) sp hP hD hS hA (fun H locs hP hD hS => ?_)
      refine lv_bipush (v := 20) hx hb dL_act_195 (by decide) ?_
      refine lv_isub hx hb dL_act_197 ?_
      refine lv_topi (fun gs egs => ?_)
      have sp9 := (cu_sp.inR (X := (cu_cw C a (nI N) mn K P)) (cu_sm_sp (C := C) (o := o) (r := r) (g := g) (N := N) (mn := mn) (M := (va_up K k (upd (upd (K k) 9 ga) 10 gb))) (M' := (va_up K k (upd (upd (upd (K k) 9 ga) 10 gb) 11 gs))) (i := k) (X := (upd (upd (K k) 9 ga) 10 gb)) (X' := (upd (upd (upd (K k) 9 ga) 10 gb) 11 gs)) hk (va_up_self K k (upd (upd (K k) 9 ga) 10 gb)) (bx_uu K k (upd (upd (K k) 9 ga) 10 gb) (upd (upd (upd (K k) 9 ga) 10 gb) 11 gs)).symm))
      have hD9 := hD
      obtain ⟨qa, ha⟩ := List.getElem?_of_mem (cu_sp.mem sp9)
      refine va_put (D := D) (ci := 2) (v := .int gs) (ty := .int) (C := RX2) (T := TX2) (N := 14) hx hb hts hiX2 tyX2 tyX2_ok nmX2 hown hK hP hD hS qa ha rfl 2 (by decide) (hts (.fieldLink RL 39 "CuckooShopLaw$Clock" "swing" "I") (by decide +kernel)) (fun _ h9 => h9) rfl (by decide +kernel) rfl rfl (Nat.le_of_ble_eq_true rfl) dL_act_198 (fun H locs hP hD hS => ?_)
      have hP : va_P D vwCl ((cu_cw C a (nI N) mn K P) ++ (cu_sm C o r g N mn (va_up K k (upd (upd (upd (K k) 9 ga) 10 gb) 11 gs)))) H := cu_sp.put sp9 ha hD9 hP
      have hD : va_D A ((cu_cw C a (nI N) mn K P) ++ (cu_sm C o r g N mn (va_up K k (upd (upd (upd (K k) 9 ga) 10 gb) 11 gs)))) := cu_D_fst sp9.fst hD9
      refine lv_aload_n hx hb dL_act_201 rfl (lv_at hl 3 rfl) ?_
      refine lv_iload hx hb dL_act_202 (lv_at hl 1 rfl) ?_
      refine lv_aload hx hb dL_act_204 (lv_at hl 0 rfl) ?_
      obtain ⟨qa, ha⟩ := List.getElem?_of_mem (cu_sp.mem (cu_sp.inR (X := (cu_cw C a (nI N) mn K P)) (cu_sm_rd (C := C) (o := o) (r := r) (g := g) (N := N) (mn := mn) (M := (va_up K k (upd (upd (upd (K k) 9 ga) 10 gb) 11 gs))) (i := k) (X := (upd (upd (upd (K k) 9 ga) 10 gb) 11 gs)) hk (va_up_self K k (upd (upd (upd (K k) 9 ga) 10 gb) 11 gs)))))
      refine va_get (D := D) (ci := 2) (v := .int ga) (C := RX2) (T := TX2) (N := 14) hx hb hts hiX2 hown hK hP qa ha rfl 0 (by decide) (hts (.fieldLink RL 30 "CuckooShopLaw$Clock" "a" "I") (by decide +kernel)) (fun _ h9 => h9) rfl dL_act_206 ?_
      refine lv_aload hx hb dL_act_209 (lv_at hl 0 rfl) ?_
      obtain ⟨qa, ha⟩ := List.getElem?_of_mem (cu_sp.mem (cu_sp.inR (X := (cu_cw C a (nI N) mn K P)) (cu_sm_rd (C := C) (o := o) (r := r) (g := g) (N := N) (mn := mn) (M := (va_up K k (upd (upd (upd (K k) 9 ga) 10 gb) 11 gs))) (i := k) (X := (upd (upd (upd (K k) 9 ga) 10 gb) 11 gs)) hk (va_up_self K k (upd (upd (upd (K k) 9 ga) 10 gb) 11 gs)))))
      refine va_get (D := D) (ci := 2) (v := .int gb) (C := RX2) (T := TX2) (N := 14) hx hb hts hiX2 hown hK hP qa ha rfl 1 (by decide) (hts (.fieldLink RL 36 "CuckooShopLaw$Clock" "b" "I") (by decide +kernel)) (fun _ h9 => h9) rfl dL_act_211 ?_
      refine lv_aload hx hb dL_act_214 (lv_at hl 0 rfl) ?_
      obtain ⟨qa, ha⟩ := List.getElem?_of_mem (cu_sp.mem (cu_sp.inR (X := (cu_cw C a (nI N) mn K P)) (cu_sm_rd (C := C) (o := o) (r := r) (g := g) (N := N) (mn := mn) (M := (va_up K k (upd (upd (upd (K k) 9 ga) 10 gb) 11 gs))) (i := k) (X := (upd (upd (upd (K k) 9 ga) 10 gb) 11 gs)) hk (va_up_self K k (upd (upd (upd (K k) 9 ga) 10 gb) 11 gs)))))
      refine va_get (D := D) (ci := 2) (v := .int gs) (C := RX2) (T := TX2) (N := 14) hx hb hts hiX2 hown hK hP qa ha rfl 2 (by decide) (hts (.fieldLink RL 39 "CuckooShopLaw$Clock" "swing" "I") (by decide +kernel)) (fun _ h9 => h9) rfl dL_act_216 ?_
      have sp := (cu_sp.inL (Y := (cu_sm C o r g N mn (va_up K k (upd (upd (upd (K k) 9 ga) 10 gb) 11 gs)))) (cu_sp.all (W0 := (cu_cw C a (nI N) mn K P)) (W1 := (cu_cw C a (nI N) mn (va_up K k (upd (upd (upd (K k) 9 ga) 10 gb) 11 gs)) P)) cu_cw_fst))
      refine cu_callXI (vx_runV (As := [.int (nI k), .int ga, .int gb, .int gs]) (rest := []) ⟨hx, hb, hml, hown, hts⟩ ((n_gear l hlf D C a N hN mn K P k hk ga gb gs (k_bd20 ega) (by first | exact k_bd20 egb | (rw [egb]; exact k_bd20 ega)) (k_bds egs)) H.size) (cwV 4 hts gL_act_X1_gear rfl rfl rfl (by decide +kernel) ⟨Nat.le_of_ble_eq_true rfl, Nat.le_of_ble_eq_true rfl⟩) (cu_preXV (ci := 1) sp hG hP hD hT hS hA rfl rfl) rfl rfl hl.1 rfl (lv_room (Nat.le_of_ble_eq_true rfl)) dL_act_219 ⟨Nat.le_of_ble_eq_true rfl, Nat.le_of_ble_eq_true rfl⟩) sp hP hD hS hA (fun E _ _ _ _ hoE _ _ _ _ _ _ => by cases hoE) (fun H locs _ hP hD hS => ?_)
      have hP : va_P D vwCl ((cu_cw C a (nI N) mn (va_up K k (upd (upd (upd (K k) 9 ga) 10 gb) 11 gs)) P) ++ (cu_sm C o r g N mn (va_up K k (upd (upd (upd (K k) 9 ga) 10 gb) 11 gs)))) H := hP
      have hD : va_D A ((cu_cw C a (nI N) mn (va_up K k (upd (upd (upd (K k) 9 ga) 10 gb) 11 gs)) P) ++ (cu_sm C o r g N mn (va_up K k (upd (upd (upd (K k) 9 ga) 10 gb) 11 gs)))) := hD
      refine lv_aload hx hb dL_act_222 (lv_at hl 0 rfl) ?_
      refine lv_aload hx hb dL_act_224 (lv_at hl 0 rfl) ?_
      obtain ⟨qa, ha⟩ := List.getElem?_of_mem (cu_sp.mem (cu_sp.inR (X := (cu_cw C a (nI N) mn (va_up K k (upd (upd (upd (K k) 9 ga) 10 gb) 11 gs)) P)) (cu_sm_rd (C := C) (o := o) (r := r) (g := g) (N := N) (mn := mn) (M := (va_up K k (upd (upd (upd (K k) 9 ga) 10 gb) 11 gs))) (i := k) (X := (upd (upd (upd (K k) 9 ga) 10 gb) 11 gs)) hk (va_up_self K k (upd (upd (upd (K k) 9 ga) 10 gb) 11 gs)))))
      refine va_get (D := D) (ci := 2) (v := .int ga) (C := RX2) (T := TX2) (N := 14) hx hb hts hiX2 hown hK hP qa ha rfl 0 (by decide) (hts (.fieldLink RL 30 "CuckooShopLaw$Clock" "a" "I") (by decide +kernel)) (fun _ h9 => h9) rfl dL_act_226 ?_
      refine lv_aload hx hb dL_act_229 (lv_at hl 0 rfl) ?_
      obtain ⟨qa, ha⟩ := List.getElem?_of_mem (cu_sp.mem (cu_sp.inR (X := (cu_cw C a (nI N) mn (va_up K k (upd (upd (upd (K k) 9 ga) 10 gb) 11 gs)) P)) (cu_sm_rd (C := C) (o := o) (r := r) (g := g) (N := N) (mn := mn) (M := (va_up K k (upd (upd (upd (K k) 9 ga) 10 gb) 11 gs))) (i := k) (X := (upd (upd (upd (K k) 9 ga) 10 gb) 11 gs)) hk (va_up_self K k (upd (upd (upd (K k) 9 ga) 10 gb) 11 gs)))))
      refine va_get (D := D) (ci := 2) (v := .int gb) (C := RX2) (T := TX2) (N := 14) hx hb hts hiX2 hown hK hP qa ha rfl 1 (by decide) (hts (.fieldLink RL 36 "CuckooShopLaw$Clock" "b" "I") (by decide +kernel)) (fun _ h9 => h9) rfl dL_act_231 ?_
      have sp := (cu_sp.inR (X := (cu_cw C a (nI N) mn (va_up K k (upd (upd (upd (K k) 9 ga) 10 gb) 11 gs)) P)) (cu_sm_rd (C := C) (o := o) (r := r) (g := g) (N := N) (mn := mn) (M := (va_up K k (upd (upd (upd (K k) 9 ga) 10 gb) 11 gs))) (i := k) (X := (upd (upd (upd (K k) 9 ga) 10 gb) 11 gs)) hk (va_up_self K k (upd (upd (upd (K k) 9 ga) 10 gb) 11 gs))))
      refine cu_callI (va_runV (As := [.int ga, .int gb]) (rest := [.int (k_adv (upd (upd (upd (K k) 9 ga) 10 gb) 11 gs))]) ⟨hx, hb, hml, hown, hts⟩ ((m_X2_advance l D C (g k) (upd (upd (upd (K k) 9 ga) 10 gb) 11 gs) ga gb (by first | exact k_bz (k_bd20 egb).1 | (rw [egb]; exact k_bz (k_bd20 ega).1))) H.size) (cwV 2 hts gL_act_X2_advance rfl rfl rfl (by decide +kernel) ⟨Nat.le_of_ble_eq_true rfl, Nat.le_of_ble_eq_true rfl⟩) (cu_preV (ci := 2) sp hG hP hD rfl rfl) rfl rfl hl.1 rfl (lv_room (Nat.le_of_ble_eq_true rfl)) dL_act_234 ⟨Nat.le_of_ble_eq_true rfl, Nat.le_of_ble_eq_true rfl⟩) sp hP hD hS hA (fun H locs hP hD hS => ?_)
      have hP : va_P D vwCl ((cu_cw C a (nI N) mn (va_up K k (upd (upd (upd (K k) 9 ga) 10 gb) 11 gs)) P) ++ (cu_sm C o r g N mn (va_up K k (upd (upd (upd (K k) 9 ga) 10 gb) 11 gs)))) H := hP
      have hD : va_D A ((cu_cw C a (nI N) mn (va_up K k (upd (upd (upd (K k) 9 ga) 10 gb) 11 gs)) P) ++ (cu_sm C o r g N mn (va_up K k (upd (upd (upd (K k) 9 ga) 10 gb) 11 gs)))) := hD
      refine lv_icmp_ne (tgt := 244) hx hb dL_act_237 (by decide) (fun c_237 => absurd rfl c_237) (fun c_237 => ?_)
      refine lv_iconst (v := 1) hx hb dL_act_240 (by decide) ?_
      refine lv_goto (tgt := 245) hx hb dL_act_241 (by decide) ?_
      refine W.widen (k := 4) (n := 60) (Nat.le_of_ble_eq_true rfl) (Nat.le_of_ble_eq_true rfl) ?_
      exact fin (N, r, g, (va_up K k (upd (upd (upd (K k) 9 ga) 10 gb) 11 gs))) 1 _ _ _ _ rfl ⟨rfl, (k_in_put I hk (k_ok_gearN (k_in_ok I hk) (k_bd20 ega) (by first | exact k_bd20 egb | (rw [egb]; exact k_bd20 ega)) (k_bds egs)) rfl)⟩ hP hD hS dL_act_245
  by_cases s_3 : y = 3
  · subst s_3
    refine lv_tableIn (off := 191) (tgt := 246) hx hb dL_act_55 (by decide) (by decide) (by decide) (by decide) ?_
    refine lv_aload hx hb dL_act_246 (lv_at hl 0 rfl) ?_
    refine lv_aload_n hx hb dL_act_248 rfl (lv_at hl 4 rfl) ?_
    obtain ⟨qa, ha⟩ := List.getElem?_of_mem (cu_sp.mem (cu_sp.inR (X := (cu_cw C a (nI N) mn K P)) (cu_sp.rdm (cu_sm_o (C := C) (o := o) (r := r) (g := g) (N := N) (mn := mn) (M := K)))))
    refine va_get (D := D) (ci := 3) (v := .int mn) (C := RX3) (T := TX3) (N := 2) hx hb hts hiX3 hown hK hP qa ha rfl 1 (by decide) (hts (.fieldLink RL 49 "CuckooShopLaw$Sim" "minute" "I") (by decide +kernel)) (fun _ h9 => h9) rfl dL_act_249 ?_
    have sp := (cu_sp.inR (X := (cu_cw C a (nI N) mn K P)) (cu_sm_rd (C := C) (o := o) (r := r) (g := g) (N := N) (mn := mn) (M := K) (i := k) (X := (K k)) hk rfl))
    refine cu_callI (va_runV (As := [.int mn]) (rest := []) ⟨hx, hb, hml, hown, hts⟩ ((m_X2_off l D C (g k) (K k) mn (k_in_ok I hk).c I.2.2.2.1) H.size) (cwV 1 hts gL_act_X2_off rfl rfl rfl (by decide +kernel) ⟨Nat.le_of_ble_eq_true rfl, Nat.le_of_ble_eq_true rfl⟩) (cu_preV (ci := 2) sp hG hP hD rfl rfl) rfl rfl hl.1 rfl (lv_room (Nat.le_of_ble_eq_true rfl)) dL_act_252 ⟨Nat.le_of_ble_eq_true rfl, Nat.le_of_ble_eq_true rfl⟩) sp hP hD hS hA (fun H locs hP hD hS => ?_)
    have hP : va_P D vwCl ((cu_cw C a (nI N) mn K P) ++ (cu_sm C o r g N mn K)) H := hP
    have hD : va_D A ((cu_cw C a (nI N) mn K P) ++ (cu_sm C o r g N mn K)) := hD
    refine lv_istore (lv' := [(7, .int (k_off (K k) mn)), (5, .ref (g k)), (4, .int (nI k)), (3, .int (nI N)), (0, .ref (a 0)), (1, .ref o), (2, .int v)]) hx hb dL_act_255 hl (by decide) rfl (fun ls hl => ?_)
    refine lv_aload hx hb dL_act_257 (lv_at hl 1 rfl) ?_
    refine lv_iload_n hx hb dL_act_259 rfl (lv_at hl 6 rfl) ?_
    refine lv_bipush (v := 7) hx hb dL_act_260 (by decide) ?_
    refine lv_imul hx hb dL_act_262 ?_
    refine lv_sipush (v := 720) hx hb dL_act_263 (by decide) ?_
    have sp := cu_sp.nil (W0 := ((cu_cw C a (nI N) mn K P) ++ (cu_sm C o r g N mn K)))
    refine cu_callI (va_runS (As := [.int (v * 7), .int 720]) (rest := [.ref (g k)]) ⟨hx, hb, hml, hown, hts⟩ ((m_L_below l D C (v * 7) 720 (by first | exact hne | decide)) H.size) (va_cwS 2 hts gL_act_L_below rfl rfl rfl (by decide +kernel) ⟨Nat.le_of_ble_eq_true rfl, Nat.le_of_ble_eq_true rfl⟩) (cu_preS sp hG hP hD) rfl rfl hl.1 rfl (lv_room (Nat.le_of_ble_eq_true rfl)) dL_act_266 ⟨Nat.le_of_ble_eq_true rfl, Nat.le_of_ble_eq_true rfl⟩) sp hP hD hS hA (fun H locs hP hD hS => ?_)
    have sp9 := (cu_sp.inR (X := (cu_cw C a (nI N) mn K P)) (cu_sm_sp (C := C) (o := o) (r := r) (g := g) (N := N) (mn := mn) (M := K) (M' := (va_up K k (upd (K k) 0 (k_bel (v * 7) 720)))) (i := k) (X := (K k)) (X' := (upd (K k) 0 (k_bel (v * 7) 720))) hk rfl rfl))
    have hD9 := hD
    obtain ⟨qa, ha⟩ := List.getElem?_of_mem (cu_sp.mem sp9)
    refine va_put (D := D) (ci := 2) (v := .int (k_bel (v * 7) 720)) (ty := .int) (C := RX2) (T := TX2) (N := 14) hx hb hts hiX2 tyX2 tyX2_ok nmX2 hown hK hP hD hS qa ha rfl 3 (by decide) (hts (.fieldLink RL 55 "CuckooShopLaw$Clock" "shows" "I") (by decide +kernel)) (fun _ h9 => h9) rfl (by decide +kernel) rfl rfl (Nat.le_of_ble_eq_true rfl) dL_act_269 (fun H locs hP hD hS => ?_)
    have hP : va_P D vwCl ((cu_cw C a (nI N) mn K P) ++ (cu_sm C o r g N mn (va_up K k (upd (K k) 0 (k_bel (v * 7) 720))))) H := cu_sp.put sp9 ha hD9 hP
    have hD : va_D A ((cu_cw C a (nI N) mn K P) ++ (cu_sm C o r g N mn (va_up K k (upd (K k) 0 (k_bel (v * 7) 720))))) := cu_D_fst sp9.fst hD9
    refine lv_aload hx hb dL_act_272 (lv_at hl 1 rfl) ?_
    refine lv_iconst (v := 0) hx hb dL_act_274 (by decide) ?_
    have sp9 := (cu_sp.inR (X := (cu_cw C a (nI N) mn K P)) (cu_sm_sp (C := C) (o := o) (r := r) (g := g) (N := N) (mn := mn) (M := (va_up K k (upd (K k) 0 (k_bel (v * 7) 720)))) (M' := (va_up K k (upd (upd (K k) 0 (k_bel (v * 7) 720)) 1 0))) (i := k) (X := (upd (K k) 0 (k_bel (v * 7) 720))) (X' := (upd (upd (K k) 0 (k_bel (v * 7) 720)) 1 0)) hk (va_up_self K k (upd (K k) 0 (k_bel (v * 7) 720))) (bx_uu K k (upd (K k) 0 (k_bel (v * 7) 720)) (upd (upd (K k) 0 (k_bel (v * 7) 720)) 1 0)).symm))
    have hD9 := hD
    obtain ⟨qa, ha⟩ := List.getElem?_of_mem (cu_sp.mem sp9)
    refine va_put (D := D) (ci := 2) (v := .int 0) (ty := .int) (C := RX2) (T := TX2) (N := 14) hx hb hts hiX2 tyX2 tyX2_ok nmX2 hown hK hP hD hS qa ha rfl 4 (by decide) (hts (.fieldLink RL 58 "CuckooShopLaw$Clock" "rest" "I") (by decide +kernel)) (fun _ h9 => h9) rfl (by decide +kernel) rfl rfl (Nat.le_of_ble_eq_true rfl) dL_act_275 (fun H locs hP hD hS => ?_)
    have hP : va_P D vwCl ((cu_cw C a (nI N) mn K P) ++ (cu_sm C o r g N mn (va_up K k (upd (upd (K k) 0 (k_bel (v * 7) 720)) 1 0)))) H := cu_sp.put sp9 ha hD9 hP
    have hD : va_D A ((cu_cw C a (nI N) mn K P) ++ (cu_sm C o r g N mn (va_up K k (upd (upd (K k) 0 (k_bel (v * 7) 720)) 1 0)))) := cu_D_fst sp9.fst hD9
    refine lv_aload_n hx hb dL_act_278 rfl (lv_at hl 4 rfl) ?_
    refine lv_iload hx hb dL_act_279 (lv_at hl 2 rfl) ?_
    refine lv_aload hx hb dL_act_281 (lv_at hl 1 rfl) ?_
    obtain ⟨qa, ha⟩ := List.getElem?_of_mem (cu_sp.mem (cu_sp.inR (X := (cu_cw C a (nI N) mn K P)) (cu_sm_rd (C := C) (o := o) (r := r) (g := g) (N := N) (mn := mn) (M := (va_up K k (upd (upd (K k) 0 (k_bel (v * 7) 720)) 1 0))) (i := k) (X := (upd (upd (K k) 0 (k_bel (v * 7) 720)) 1 0)) hk (va_up_self K k (upd (upd (K k) 0 (k_bel (v * 7) 720)) 1 0)))))
    refine va_get (D := D) (ci := 2) (v := .int (k_bel (v * 7) 720)) (C := RX2) (T := TX2) (N := 14) hx hb hts hiX2 hown hK hP qa ha rfl 3 (by decide) (hts (.fieldLink RL 55 "CuckooShopLaw$Clock" "shows" "I") (by decide +kernel)) (fun _ h9 => h9) rfl dL_act_283 ?_
    have sp := (cu_sp.inL (Y := (cu_sm C o r g N mn (va_up K k (upd (upd (K k) 0 (k_bel (v * 7) 720)) 1 0)))) (cu_sp.all (W0 := (cu_cw C a (nI N) mn K P)) (W1 := (cu_cw C a (nI N) mn (va_up K k (upd (upd (K k) 0 (k_bel (v * 7) 720)) 1 0)) P)) cu_cw_fst))
    refine cu_callXI (vx_runV (As := [.int (nI k), .int (k_bel (v * 7) 720)]) (rest := []) ⟨hx, hb, hml, hown, hts⟩ ((n_set l hlf D C a N hN mn K P k hk (k_bel (v * 7) 720) (k_bel720 _)) H.size) (cwV 2 hts gL_act_X1_set rfl rfl rfl (by decide +kernel) ⟨Nat.le_of_ble_eq_true rfl, Nat.le_of_ble_eq_true rfl⟩) (cu_preXV (ci := 1) sp hG hP hD hT hS hA rfl rfl) rfl rfl hl.1 rfl (lv_room (Nat.le_of_ble_eq_true rfl)) dL_act_286 ⟨Nat.le_of_ble_eq_true rfl, Nat.le_of_ble_eq_true rfl⟩) sp hP hD hS hA (fun E _ _ _ _ hoE _ _ _ _ _ _ => by cases hoE) (fun H locs _ hP hD hS => ?_)
    have hP : va_P D vwCl ((cu_cw C a (nI N) mn (va_up K k (upd (upd (K k) 0 (k_bel (v * 7) 720)) 1 0)) P) ++ (cu_sm C o r g N mn (va_up K k (upd (upd (K k) 0 (k_bel (v * 7) 720)) 1 0)))) H := hP
    have hD : va_D A ((cu_cw C a (nI N) mn (va_up K k (upd (upd (K k) 0 (k_bel (v * 7) 720)) 1 0)) P) ++ (cu_sm C o r g N mn (va_up K k (upd (upd (K k) 0 (k_bel (v * 7) 720)) 1 0)))) := hD
    refine lv_iload hx hb dL_act_289 (lv_at hl 0 rfl) ?_
    refine lv_icmp_ne (tgt := 298) hx hb dL_act_291 (by decide) (fun c_291 => absurd rfl c_291) (fun c_291 => ?_)
    refine lv_iconst (v := 1) hx hb dL_act_294 (by decide) ?_
    refine lv_goto (tgt := 299) hx hb dL_act_295 (by decide) ?_
    refine W.widen (k := 4) (n := 60) (Nat.le_of_ble_eq_true rfl) (Nat.le_of_ble_eq_true rfl) ?_
    exact fin (N, r, g, (va_up K k (upd (upd (K k) 0 (k_bel (v * 7) 720)) 1 0))) 1 _ _ _ _ rfl ⟨rfl, (k_in_put I hk (k_ok_setN (k_in_ok I hk) (k_bel720 _)) rfl)⟩ hP hD hS dL_act_299
  by_cases s_4 : y = 4
  · subst s_4
    refine lv_tableIn (off := 245) (tgt := 300) hx hb dL_act_55 (by decide) (by decide) (by decide) (by decide) ?_
    refine lv_sipush (v := 600) hx hb dL_act_300 (by decide) ?_
    refine lv_aload hx hb dL_act_303 (lv_at hl 0 rfl) ?_
    obtain ⟨qa, ha⟩ := List.getElem?_of_mem (cu_sp.mem (cu_sp.inR (X := (cu_cw C a (nI N) mn K P)) (cu_sm_rd (C := C) (o := o) (r := r) (g := g) (N := N) (mn := mn) (M := K) (i := k) (X := (K k)) hk rfl)))
    refine va_get (D := D) (ci := 2) (v := .int ((K k) 2)) (C := RX2) (T := TX2) (N := 14) hx hb hts hiX2 hown hK hP qa ha rfl 5 (by decide) (hts (.fieldLink RL 64 "CuckooShopLaw$Clock" "chain" "I") (by decide +kernel)) (fun _ h9 => h9) rfl dL_act_305 ?_
    refine lv_isub hx hb dL_act_308 ?_
    refine lv_istore (lv' := [(8, .int (600 - ((K k) 2))), (5, .ref (g k)), (4, .int (nI k)), (3, .int (nI N)), (0, .ref (a 0)), (1, .ref o), (2, .int v)]) hx hb dL_act_309 hl (by decide) rfl (fun ls hl => ?_)
    refine lv_aload hx hb dL_act_311 (lv_at hl 1 rfl) ?_
    refine lv_sipush (v := 600) hx hb dL_act_313 (by decide) ?_
    have sp9 := (cu_sp.inR (X := (cu_cw C a (nI N) mn K P)) (cu_sm_sp (C := C) (o := o) (r := r) (g := g) (N := N) (mn := mn) (M := K) (M' := (va_up K k (upd (K k) 2 600))) (i := k) (X := (K k)) (X' := (upd (K k) 2 600)) hk rfl rfl))
    have hD9 := hD
    obtain ⟨qa, ha⟩ := List.getElem?_of_mem (cu_sp.mem sp9)
    refine va_put (D := D) (ci := 2) (v := .int 600) (ty := .int) (C := RX2) (T := TX2) (N := 14) hx hb hts hiX2 tyX2 tyX2_ok nmX2 hown hK hP hD hS qa ha rfl 5 (by decide) (hts (.fieldLink RL 64 "CuckooShopLaw$Clock" "chain" "I") (by decide +kernel)) (fun _ h9 => h9) rfl (by decide +kernel) rfl rfl (Nat.le_of_ble_eq_true rfl) dL_act_316 (fun H locs hP hD hS => ?_)
    have hP : va_P D vwCl ((cu_cw C a (nI N) mn K P) ++ (cu_sm C o r g N mn (va_up K k (upd (K k) 2 600)))) H := cu_sp.put sp9 ha hD9 hP
    have hD : va_D A ((cu_cw C a (nI N) mn K P) ++ (cu_sm C o r g N mn (va_up K k (upd (K k) 2 600)))) := cu_D_fst sp9.fst hD9
    refine lv_aload hx hb dL_act_319 (lv_at hl 1 rfl) ?_
    refine lv_iconst (v := 1) hx hb dL_act_321 (by decide) ?_
    have sp9 := (cu_sp.inR (X := (cu_cw C a (nI N) mn K P)) (cu_sm_sp (C := C) (o := o) (r := r) (g := g) (N := N) (mn := mn) (M := (va_up K k (upd (K k) 2 600))) (M' := (va_up K k (upd (upd (K k) 2 600) 5 1))) (i := k) (X := (upd (K k) 2 600)) (X' := (upd (upd (K k) 2 600) 5 1)) hk (va_up_self K k (upd (K k) 2 600)) (bx_uu K k (upd (K k) 2 600) (upd (upd (K k) 2 600) 5 1)).symm))
    have hD9 := hD
    obtain ⟨qa, ha⟩ := List.getElem?_of_mem (cu_sp.mem sp9)
    refine va_put (D := D) (ci := 2) (v := .int 1) (ty := .boolean) (C := RX2) (T := TX2) (N := 14) hx hb hts hiX2 tyX2 tyX2_ok nmX2 hown hK hP hD hS qa ha rfl 8 (by decide) (hts (.fieldLink RL 67 "CuckooShopLaw$Clock" "goes" "Z") (by decide +kernel)) (fun _ h9 => h9) rfl (by decide +kernel) rfl rfl (Nat.le_of_ble_eq_true rfl) dL_act_322 (fun H locs hP hD hS => ?_)
    have hP : va_P D vwCl ((cu_cw C a (nI N) mn K P) ++ (cu_sm C o r g N mn (va_up K k (upd (upd (K k) 2 600) 5 1)))) H := cu_sp.put sp9 ha hD9 hP
    have hD : va_D A ((cu_cw C a (nI N) mn K P) ++ (cu_sm C o r g N mn (va_up K k (upd (upd (K k) 2 600) 5 1)))) := cu_D_fst sp9.fst hD9
    refine lv_aload_n hx hb dL_act_325 rfl (lv_at hl 4 rfl) ?_
    refine lv_iload hx hb dL_act_326 (lv_at hl 2 rfl) ?_
    have sp := (cu_sp.inL (Y := (cu_sm C o r g N mn (va_up K k (upd (upd (K k) 2 600) 5 1)))) (cu_sp.all (W0 := (cu_cw C a (nI N) mn K P)) (W1 := (cu_cw C a (nI N) mn (va_up K k (upd (upd (K k) 2 600) 5 1)) P)) cu_cw_fst))
    refine cu_callXI (vx_runV (As := [.int (nI k)]) (rest := []) ⟨hx, hb, hml, hown, hts⟩ ((n_wind l hlf D C a N hN mn K P k hk) H.size) (cwV 1 hts gL_act_X1_wind rfl rfl rfl (by decide +kernel) ⟨Nat.le_of_ble_eq_true rfl, Nat.le_of_ble_eq_true rfl⟩) (cu_preXV (ci := 1) sp hG hP hD hT hS hA rfl rfl) rfl rfl hl.1 rfl (lv_room (Nat.le_of_ble_eq_true rfl)) dL_act_328 ⟨Nat.le_of_ble_eq_true rfl, Nat.le_of_ble_eq_true rfl⟩) sp hP hD hS hA (fun E _ _ _ _ hoE _ _ _ _ _ _ => by cases hoE) (fun H locs _ hP hD hS => ?_)
    have hP : va_P D vwCl ((cu_cw C a (nI N) mn (va_up K k (upd (upd (K k) 2 600) 5 1)) P) ++ (cu_sm C o r g N mn (va_up K k (upd (upd (K k) 2 600) 5 1)))) H := hP
    have hD : va_D A ((cu_cw C a (nI N) mn (va_up K k (upd (upd (K k) 2 600) 5 1)) P) ++ (cu_sm C o r g N mn (va_up K k (upd (upd (K k) 2 600) 5 1)))) := hD
    refine lv_iload hx hb dL_act_331 (lv_at hl 0 rfl) ?_
    refine lv_icmp_ne (tgt := 340) hx hb dL_act_333 (by decide) (fun c_333 => absurd rfl c_333) (fun c_333 => ?_)
    refine lv_iconst (v := 1) hx hb dL_act_336 (by decide) ?_
    refine lv_goto (tgt := 341) hx hb dL_act_337 (by decide) ?_
    refine W.widen (k := 4) (n := 60) (Nat.le_of_ble_eq_true rfl) (Nat.le_of_ble_eq_true rfl) ?_
    exact fin (N, r, g, (va_up K k (upd (upd (K k) 2 600) 5 1))) 1 _ _ _ _ rfl ⟨rfl, (k_in_put I hk (k_ok_wind (k_in_ok I hk)) rfl)⟩ hP hD hS dL_act_341
  by_cases s_5 : y = 5
  · subst s_5
    refine lv_tableIn (off := 287) (tgt := 342) hx hb dL_act_55 (by decide) (by decide) (by decide) (by decide) ?_
    refine lv_iload_n hx hb dL_act_342 rfl (lv_at hl 5 rfl) ?_
    refine lv_iconst (v := 4) hx hb dL_act_343 (by decide) ?_
    refine lv_ishr hx hb dL_act_344 ?_
    refine lv_topi (fun z12 _ => ?_)
    refine lv_iconst (v := 3) hx hb dL_act_345 (by decide) ?_
    have sp := cu_sp.nil (W0 := ((cu_cw C a (nI N) mn K P) ++ (cu_sm C o r g N mn K)))
    refine cu_callI (va_runS (As := [.int z12, .int 3]) (rest := []) ⟨hx, hb, hml, hown, hts⟩ ((m_L_below l D C z12 3 (by first | exact hne | decide)) H.size) (va_cwS 2 hts gL_act_L_below rfl rfl rfl (by decide +kernel) ⟨Nat.le_of_ble_eq_true rfl, Nat.le_of_ble_eq_true rfl⟩) (cu_preS sp hG hP hD) rfl rfl hl.1 rfl (lv_room (Nat.le_of_ble_eq_true rfl)) dL_act_346 ⟨Nat.le_of_ble_eq_true rfl, Nat.le_of_ble_eq_true rfl⟩) sp hP hD hS hA (fun H locs hP hD hS => ?_)
    have hwh : k_bel z12 3 = 0 ∨ k_bel z12 3 = 1 ∨ k_bel z12 3 = 2 := k_bel3 _
    generalize k_bel z12 3 = wh at hwh ⊢
    refine lv_istore (lv' := [(9, .int wh), (5, .ref (g k)), (4, .int (nI k)), (3, .int (nI N)), (0, .ref (a 0)), (1, .ref o), (2, .int v)]) hx hb dL_act_349 hl (by decide) rfl (fun ls hl => ?_)
    refine lv_iload hx hb dL_act_351 (lv_at hl 0 rfl) ?_
    refine lv_iconst (v := 2) hx hb dL_act_353 (by decide) ?_
    refine lv_icmp_ne (tgt := 412) hx hb dL_act_354 (by decide) (fun c_354 => ?_) (fun c_354 => ?_)
    · refine lv_iload hx hb dL_act_412 (lv_at hl 0 rfl) ?_
      refine lv_if_ne (tgt := 428) hx hb dL_act_414 (by decide) (fun c_414 => ?_) (fun c_414 => ?_)
      · refine lv_bipush (v := 60) hx hb dL_act_428 (by decide) ?_
        refine lv_aload hx hb dL_act_430 (lv_at hl 1 rfl) ?_
        obtain ⟨qa, ha⟩ := List.getElem?_of_mem (cu_sp.mem (cu_sp.inR (X := (cu_cw C a (nI N) mn K P)) (cu_sm_rd (C := C) (o := o) (r := r) (g := g) (N := N) (mn := mn) (M := K) (i := k) (X := (K k)) hk rfl)))
        refine va_get (D := D) (ci := 2) (v := .int ((K k) 4)) (C := RX2) (T := TX2) (N := 14) hx hb hts hiX2 hown hK hP qa ha rfl 7 (by decide) (hts (.fieldLink RL 80 "CuckooShopLaw$Clock" "bellows" "I") (by decide +kernel)) (fun _ h9 => h9) rfl dL_act_432 ?_
        refine lv_isub hx hb dL_act_435 ?_
        refine lv_istore (lv' := [(10, .int (60 - ((K k) 4))), (9, .int wh), (5, .ref (g k)), (4, .int (nI k)), (3, .int (nI N)), (0, .ref (a 0)), (1, .ref o), (2, .int v)]) hx hb dL_act_436 hl (by decide) rfl (fun ls hl => ?_)
        refine lv_iload hx hb dL_act_438 (lv_at hl 1 rfl) ?_
        refine lv_if_ne (tgt := 453) hx hb dL_act_440 (by decide) (fun c_440 => ?_) (fun c_440 => absurd c_440 c_414)
        refine lv_aload hx hb dL_act_453 (lv_at hl 2 rfl) ?_
        refine lv_bipush (v := 60) hx hb dL_act_455 (by decide) ?_
        have sp9 := (cu_sp.inR (X := (cu_cw C a (nI N) mn K P)) (cu_sm_sp (C := C) (o := o) (r := r) (g := g) (N := N) (mn := mn) (M := K) (M' := (va_up K k (upd (K k) 4 60))) (i := k) (X := (K k)) (X' := (upd (K k) 4 60)) hk rfl rfl))
        have hD9 := hD
        obtain ⟨qa, ha⟩ := List.getElem?_of_mem (cu_sp.mem sp9)
        refine va_put (D := D) (ci := 2) (v := .int 60) (ty := .int) (C := RX2) (T := TX2) (N := 14) hx hb hts hiX2 tyX2 tyX2_ok nmX2 hown hK hP hD hS qa ha rfl 7 (by decide) (hts (.fieldLink RL 80 "CuckooShopLaw$Clock" "bellows" "I") (by decide +kernel)) (fun _ h9 => h9) rfl (by decide +kernel) rfl rfl (Nat.le_of_ble_eq_true rfl) dL_act_457 (fun H locs hP hD hS => ?_)
        have hP : va_P D vwCl ((cu_cw C a (nI N) mn K P) ++ (cu_sm C o r g N mn (va_up K k (upd (K k) 4 60)))) H := cu_sp.put sp9 ha hD9 hP
        have hD : va_D A ((cu_cw C a (nI N) mn K P) ++ (cu_sm C o r g N mn (va_up K k (upd (K k) 4 60)))) := cu_D_fst sp9.fst hD9
        refine lv_aload_n hx hb dL_act_460 rfl (lv_at hl 5 rfl) ?_
        refine lv_iload hx hb dL_act_461 (lv_at hl 3 rfl) ?_
        refine lv_iload hx hb dL_act_463 (lv_at hl 1 rfl) ?_
        have sp := (cu_sp.inL (Y := (cu_sm C o r g N mn (va_up K k (upd (K k) 4 60)))) (cu_sp.all (W0 := (cu_cw C a (nI N) mn K P)) (W1 := (cu_cw C a (nI N) mn (va_up K k (k_mendK (K k) wh)) P)) cu_cw_fst))
        refine cu_callXI (vx_runV (As := [.int (nI k), .int wh]) (rest := []) ⟨hx, hb, hml, hown, hts⟩ ((n_mend l hlf D C a N hN mn K P k hk wh (k_oE_n hwh)) H.size) (cwV 2 hts gL_act_X1_mend rfl rfl rfl (by decide +kernel) ⟨Nat.le_of_ble_eq_true rfl, Nat.le_of_ble_eq_true rfl⟩) (cu_preXV (ci := 1) sp hG hP hD hT hS hA rfl rfl) rfl rfl hl.1 rfl (lv_room (Nat.le_of_ble_eq_true rfl)) dL_act_465 ⟨Nat.le_of_ble_eq_true rfl, Nat.le_of_ble_eq_true rfl⟩) sp hP hD hS hA (fun E _ _ _ _ hoE _ _ _ _ _ _ => by cases hoE) (fun H locs _ hP hD hS => ?_)
        have hP : va_P D vwCl ((cu_cw C a (nI N) mn (va_up K k (k_mendK (K k) wh)) P) ++ (cu_sm C o r g N mn (va_up K k (upd (K k) 4 60)))) H := hP
        have hD : va_D A ((cu_cw C a (nI N) mn (va_up K k (k_mendK (K k) wh)) P) ++ (cu_sm C o r g N mn (va_up K k (upd (K k) 4 60)))) := hD
        refine lv_iload hx hb dL_act_468 (lv_at hl 0 rfl) ?_
        refine lv_icmp_ne (tgt := 477) hx hb dL_act_470 (by decide) (fun c_470 => absurd (by rw [k_wh1 hwh c_414 c_354]; rfl) c_470) (fun c_470 => ?_)
        refine lv_iconst (v := 1) hx hb dL_act_473 (by decide) ?_
        refine lv_goto (tgt := 478) hx hb dL_act_474 (by decide) ?_
        have eM : (va_up K k (upd (K k) 4 60)) = (va_up K k (k_mendK (K k) wh)) := by rw [k_wh1 hwh c_414 c_354]; rfl
        rw [eM] at hP hD
        refine W.widen (k := 4) (n := 60) (Nat.le_of_ble_eq_true rfl) (Nat.le_of_ble_eq_true rfl) ?_
        exact fin (N, r, g, (va_up K k (k_mendK (K k) wh))) 1 _ _ _ _ rfl ⟨rfl, (k_in_put I hk (k_ok_mend wh (k_in_ok I hk)) (k_mendK_7 _ _))⟩ hP hD hS dL_act_478
      · refine lv_bipush (v := 100) hx hb dL_act_417 (by decide) ?_
        refine lv_aload hx hb dL_act_419 (lv_at hl 1 rfl) ?_
        obtain ⟨qa, ha⟩ := List.getElem?_of_mem (cu_sp.mem (cu_sp.inR (X := (cu_cw C a (nI N) mn K P)) (cu_sm_rd (C := C) (o := o) (r := r) (g := g) (N := N) (mn := mn) (M := K) (i := k) (X := (K k)) hk rfl)))
        refine va_get (D := D) (ci := 2) (v := .int ((K k) 3)) (C := RX2) (T := TX2) (N := 14) hx hb hts hiX2 hown hK hP qa ha rfl 6 (by decide) (hts (.fieldLink RL 77 "CuckooShopLaw$Clock" "oil" "I") (by decide +kernel)) (fun _ h9 => h9) rfl dL_act_421 ?_
        refine lv_isub hx hb dL_act_424 ?_
        refine lv_goto (tgt := 436) hx hb dL_act_425 (by decide) ?_
        refine lv_istore (lv' := [(10, .int (100 - ((K k) 3))), (9, .int wh), (5, .ref (g k)), (4, .int (nI k)), (3, .int (nI N)), (0, .ref (a 0)), (1, .ref o), (2, .int v)]) hx hb dL_act_436 hl (by decide) rfl (fun ls hl => ?_)
        refine lv_iload hx hb dL_act_438 (lv_at hl 1 rfl) ?_
        refine lv_if_ne (tgt := 453) hx hb dL_act_440 (by decide) (fun c_440 => absurd c_414 c_440) (fun c_440 => ?_)
        refine lv_aload hx hb dL_act_443 (lv_at hl 2 rfl) ?_
        refine lv_bipush (v := 100) hx hb dL_act_445 (by decide) ?_
        have sp9 := (cu_sp.inR (X := (cu_cw C a (nI N) mn K P)) (cu_sm_sp (C := C) (o := o) (r := r) (g := g) (N := N) (mn := mn) (M := K) (M' := (va_up K k (upd (K k) 3 100))) (i := k) (X := (K k)) (X' := (upd (K k) 3 100)) hk rfl rfl))
        have hD9 := hD
        obtain ⟨qa, ha⟩ := List.getElem?_of_mem (cu_sp.mem sp9)
        refine va_put (D := D) (ci := 2) (v := .int 100) (ty := .int) (C := RX2) (T := TX2) (N := 14) hx hb hts hiX2 tyX2 tyX2_ok nmX2 hown hK hP hD hS qa ha rfl 6 (by decide) (hts (.fieldLink RL 77 "CuckooShopLaw$Clock" "oil" "I") (by decide +kernel)) (fun _ h9 => h9) rfl (by decide +kernel) rfl rfl (Nat.le_of_ble_eq_true rfl) dL_act_447 (fun H locs hP hD hS => ?_)
        have hP : va_P D vwCl ((cu_cw C a (nI N) mn K P) ++ (cu_sm C o r g N mn (va_up K k (upd (K k) 3 100)))) H := cu_sp.put sp9 ha hD9 hP
        have hD : va_D A ((cu_cw C a (nI N) mn K P) ++ (cu_sm C o r g N mn (va_up K k (upd (K k) 3 100)))) := cu_D_fst sp9.fst hD9
        refine lv_goto (tgt := 460) hx hb dL_act_450 (by decide) ?_
        refine lv_aload_n hx hb dL_act_460 rfl (lv_at hl 5 rfl) ?_
        refine lv_iload hx hb dL_act_461 (lv_at hl 3 rfl) ?_
        refine lv_iload hx hb dL_act_463 (lv_at hl 1 rfl) ?_
        have sp := (cu_sp.inL (Y := (cu_sm C o r g N mn (va_up K k (upd (K k) 3 100)))) (cu_sp.all (W0 := (cu_cw C a (nI N) mn K P)) (W1 := (cu_cw C a (nI N) mn (va_up K k (k_mendK (K k) wh)) P)) cu_cw_fst))
        refine cu_callXI (vx_runV (As := [.int (nI k), .int wh]) (rest := []) ⟨hx, hb, hml, hown, hts⟩ ((n_mend l hlf D C a N hN mn K P k hk wh (k_oE_n hwh)) H.size) (cwV 2 hts gL_act_X1_mend rfl rfl rfl (by decide +kernel) ⟨Nat.le_of_ble_eq_true rfl, Nat.le_of_ble_eq_true rfl⟩) (cu_preXV (ci := 1) sp hG hP hD hT hS hA rfl rfl) rfl rfl hl.1 rfl (lv_room (Nat.le_of_ble_eq_true rfl)) dL_act_465 ⟨Nat.le_of_ble_eq_true rfl, Nat.le_of_ble_eq_true rfl⟩) sp hP hD hS hA (fun E _ _ _ _ hoE _ _ _ _ _ _ => by cases hoE) (fun H locs _ hP hD hS => ?_)
        have hP : va_P D vwCl ((cu_cw C a (nI N) mn (va_up K k (k_mendK (K k) wh)) P) ++ (cu_sm C o r g N mn (va_up K k (upd (K k) 3 100)))) H := hP
        have hD : va_D A ((cu_cw C a (nI N) mn (va_up K k (k_mendK (K k) wh)) P) ++ (cu_sm C o r g N mn (va_up K k (upd (K k) 3 100)))) := hD
        refine lv_iload hx hb dL_act_468 (lv_at hl 0 rfl) ?_
        refine lv_icmp_ne (tgt := 477) hx hb dL_act_470 (by decide) (fun c_470 => absurd (by rw [c_414]; rfl) c_470) (fun c_470 => ?_)
        refine lv_iconst (v := 1) hx hb dL_act_473 (by decide) ?_
        refine lv_goto (tgt := 478) hx hb dL_act_474 (by decide) ?_
        have eM : (va_up K k (upd (K k) 3 100)) = (va_up K k (k_mendK (K k) wh)) := by rw [c_414]; rfl
        rw [eM] at hP hD
        refine W.widen (k := 4) (n := 60) (Nat.le_of_ble_eq_true rfl) (Nat.le_of_ble_eq_true rfl) ?_
        exact fin (N, r, g, (va_up K k (k_mendK (K k) wh))) 1 _ _ _ _ rfl ⟨rfl, (k_in_put I hk (k_ok_mend wh (k_in_ok I hk)) (k_mendK_7 _ _))⟩ hP hD hS dL_act_478
    · refine lv_aload hx hb dL_act_357 (lv_at hl 1 rfl) ?_
      refine lv_aload hx hb dL_act_359 (lv_at hl 1 rfl) ?_
      obtain ⟨qa, ha⟩ := List.getElem?_of_mem (cu_sp.mem (cu_sp.inR (X := (cu_cw C a (nI N) mn K P)) (cu_sm_rd (C := C) (o := o) (r := r) (g := g) (N := N) (mn := mn) (M := K) (i := k) (X := (K k)) hk rfl)))
      refine va_get (D := D) (ci := 2) (v := .int ((K k) 5)) (C := RX2) (T := TX2) (N := 14) hx hb hts hiX2 hown hK hP qa ha rfl 8 (by decide) (hts (.fieldLink RL 67 "CuckooShopLaw$Clock" "goes" "Z") (by decide +kernel)) (fun _ h9 => h9) rfl dL_act_361 ?_
      refine lv_if_ne (tgt := 379) hx hb dL_act_364 (by decide) (fun c_364 => ?_) (fun c_364 => ?_)
      · refine lv_iconst (v := 0) hx hb dL_act_379 (by decide) ?_
        have sp9 := (cu_sp.inR (X := (cu_cw C a (nI N) mn K P)) (cu_sm_sp (C := C) (o := o) (r := r) (g := g) (N := N) (mn := mn) (M := K) (M' := (va_up K k (upd (K k) 5 0))) (i := k) (X := (K k)) (X' := (upd (K k) 5 0)) hk rfl rfl))
        have hD9 := hD
        obtain ⟨qa, ha⟩ := List.getElem?_of_mem (cu_sp.mem sp9)
        refine va_put (D := D) (ci := 2) (v := .int 0) (ty := .boolean) (C := RX2) (T := TX2) (N := 14) hx hb hts hiX2 tyX2 tyX2_ok nmX2 hown hK hP hD hS qa ha rfl 8 (by decide) (hts (.fieldLink RL 67 "CuckooShopLaw$Clock" "goes" "Z") (by decide +kernel)) (fun _ h9 => h9) rfl (by decide +kernel) rfl rfl (Nat.le_of_ble_eq_true rfl) dL_act_380 (fun H locs hP hD hS => ?_)
        have hP : va_P D vwCl ((cu_cw C a (nI N) mn K P) ++ (cu_sm C o r g N mn (va_up K k (upd (K k) 5 0)))) H := cu_sp.put sp9 ha hD9 hP
        have hD : va_D A ((cu_cw C a (nI N) mn K P) ++ (cu_sm C o r g N mn (va_up K k (upd (K k) 5 0)))) := cu_D_fst sp9.fst hD9
        refine lv_aload_n hx hb dL_act_383 rfl (lv_at hl 4 rfl) ?_
        refine lv_iload hx hb dL_act_384 (lv_at hl 2 rfl) ?_
        refine lv_iconst (v := 2) hx hb dL_act_386 (by decide) ?_
        have sp := (cu_sp.inL (Y := (cu_sm C o r g N mn (va_up K k (upd (K k) 5 0)))) (cu_sp.all (W0 := (cu_cw C a (nI N) mn K P)) (W1 := (cu_cw C a (nI N) mn (va_up K k (k_mendK (K k) 2)) P)) cu_cw_fst))
        refine cu_callXI (vx_runV (As := [.int (nI k), .int 2]) (rest := []) ⟨hx, hb, hml, hown, hts⟩ ((n_mend l hlf D C a N hN mn K P k hk 2 (by decide)) H.size) (cwV 2 hts gL_act_X1_mend rfl rfl rfl (by decide +kernel) ⟨Nat.le_of_ble_eq_true rfl, Nat.le_of_ble_eq_true rfl⟩) (cu_preXV (ci := 1) sp hG hP hD hT hS hA rfl rfl) rfl rfl hl.1 rfl (lv_room (Nat.le_of_ble_eq_true rfl)) dL_act_387 ⟨Nat.le_of_ble_eq_true rfl, Nat.le_of_ble_eq_true rfl⟩) sp hP hD hS hA (fun E _ _ _ _ hoE _ _ _ _ _ _ => by cases hoE) (fun H locs _ hP hD hS => ?_)
        have hP : va_P D vwCl ((cu_cw C a (nI N) mn (va_up K k (k_mendK (K k) 2)) P) ++ (cu_sm C o r g N mn (va_up K k (upd (K k) 5 0)))) H := hP
        have hD : va_D A ((cu_cw C a (nI N) mn (va_up K k (k_mendK (K k) 2)) P) ++ (cu_sm C o r g N mn (va_up K k (upd (K k) 5 0)))) := hD
        refine lv_aload hx hb dL_act_390 (lv_at hl 1 rfl) ?_
        obtain ⟨qa, ha⟩ := List.getElem?_of_mem (cu_sp.mem (cu_sp.inR (X := (cu_cw C a (nI N) mn (va_up K k (k_mendK (K k) 2)) P)) (cu_sm_rd (C := C) (o := o) (r := r) (g := g) (N := N) (mn := mn) (M := (va_up K k (upd (K k) 5 0))) (i := k) (X := (upd (K k) 5 0)) hk (va_up_self K k (upd (K k) 5 0)))))
        refine va_get (D := D) (ci := 2) (v := .int 0) (C := RX2) (T := TX2) (N := 14) hx hb hts hiX2 hown hK hP qa ha rfl 8 (by decide) (hts (.fieldLink RL 67 "CuckooShopLaw$Clock" "goes" "Z") (by decide +kernel)) (fun _ h9 => h9) rfl dL_act_392 ?_
        refine lv_if_eq (tgt := 402) hx hb dL_act_395 (by decide) (fun c_395 => ?_) (fun c_395 => absurd c_395 (by decide))
        refine lv_iconst (v := 0) hx hb dL_act_402 (by decide) ?_
        refine lv_icmp_ne (tgt := 410) hx hb dL_act_403 (by decide) (fun c_403 => absurd (k_nudge_a c_364) c_403) (fun c_403 => ?_)
        refine lv_iconst (v := 1) hx hb dL_act_406 (by decide) ?_
        refine lv_goto (tgt := 411) hx hb dL_act_407 (by decide) ?_
        have eM : (va_up K k (upd (K k) 5 0)) = (va_up K k (k_mendK (K k) 2)) := by rw [k_mendK_2, (k_nudge_a c_364)]
        rw [eM] at hP hD
        refine W.widen (k := 4) (n := 60) (Nat.le_of_ble_eq_true rfl) (Nat.le_of_ble_eq_true rfl) ?_
        exact fin (N, r, g, (va_up K k (k_mendK (K k) 2))) 1 _ _ _ _ rfl ⟨rfl, (k_in_put I hk (k_ok_mend 2 (k_in_ok I hk)) rfl)⟩ hP hD hS dL_act_411
      · refine lv_aload hx hb dL_act_367 (lv_at hl 1 rfl) ?_
        obtain ⟨qa, ha⟩ := List.getElem?_of_mem (cu_sp.mem (cu_sp.inR (X := (cu_cw C a (nI N) mn K P)) (cu_sm_rd (C := C) (o := o) (r := r) (g := g) (N := N) (mn := mn) (M := K) (i := k) (X := (K k)) hk rfl)))
        refine va_get (D := D) (ci := 2) (v := .int ((K k) 2)) (C := RX2) (T := TX2) (N := 14) hx hb hts hiX2 hown hK hP qa ha rfl 5 (by decide) (hts (.fieldLink RL 64 "CuckooShopLaw$Clock" "chain" "I") (by decide +kernel)) (fun _ h9 => h9) rfl dL_act_369 ?_
        refine lv_if_le (tgt := 379) hx hb dL_act_372 (by decide) (fun c_372 => ?_) (fun c_372 => ?_)
        · refine lv_iconst (v := 0) hx hb dL_act_379 (by decide) ?_
          have sp9 := (cu_sp.inR (X := (cu_cw C a (nI N) mn K P)) (cu_sm_sp (C := C) (o := o) (r := r) (g := g) (N := N) (mn := mn) (M := K) (M' := (va_up K k (upd (K k) 5 0))) (i := k) (X := (K k)) (X' := (upd (K k) 5 0)) hk rfl rfl))
          have hD9 := hD
          obtain ⟨qa, ha⟩ := List.getElem?_of_mem (cu_sp.mem sp9)
          refine va_put (D := D) (ci := 2) (v := .int 0) (ty := .boolean) (C := RX2) (T := TX2) (N := 14) hx hb hts hiX2 tyX2 tyX2_ok nmX2 hown hK hP hD hS qa ha rfl 8 (by decide) (hts (.fieldLink RL 67 "CuckooShopLaw$Clock" "goes" "Z") (by decide +kernel)) (fun _ h9 => h9) rfl (by decide +kernel) rfl rfl (Nat.le_of_ble_eq_true rfl) dL_act_380 (fun H locs hP hD hS => ?_)
          have hP : va_P D vwCl ((cu_cw C a (nI N) mn K P) ++ (cu_sm C o r g N mn (va_up K k (upd (K k) 5 0)))) H := cu_sp.put sp9 ha hD9 hP
          have hD : va_D A ((cu_cw C a (nI N) mn K P) ++ (cu_sm C o r g N mn (va_up K k (upd (K k) 5 0)))) := cu_D_fst sp9.fst hD9
          refine lv_aload_n hx hb dL_act_383 rfl (lv_at hl 4 rfl) ?_
          refine lv_iload hx hb dL_act_384 (lv_at hl 2 rfl) ?_
          refine lv_iconst (v := 2) hx hb dL_act_386 (by decide) ?_
          have sp := (cu_sp.inL (Y := (cu_sm C o r g N mn (va_up K k (upd (K k) 5 0)))) (cu_sp.all (W0 := (cu_cw C a (nI N) mn K P)) (W1 := (cu_cw C a (nI N) mn (va_up K k (k_mendK (K k) 2)) P)) cu_cw_fst))
          refine cu_callXI (vx_runV (As := [.int (nI k), .int 2]) (rest := []) ⟨hx, hb, hml, hown, hts⟩ ((n_mend l hlf D C a N hN mn K P k hk 2 (by decide)) H.size) (cwV 2 hts gL_act_X1_mend rfl rfl rfl (by decide +kernel) ⟨Nat.le_of_ble_eq_true rfl, Nat.le_of_ble_eq_true rfl⟩) (cu_preXV (ci := 1) sp hG hP hD hT hS hA rfl rfl) rfl rfl hl.1 rfl (lv_room (Nat.le_of_ble_eq_true rfl)) dL_act_387 ⟨Nat.le_of_ble_eq_true rfl, Nat.le_of_ble_eq_true rfl⟩) sp hP hD hS hA (fun E _ _ _ _ hoE _ _ _ _ _ _ => by cases hoE) (fun H locs _ hP hD hS => ?_)
          have hP : va_P D vwCl ((cu_cw C a (nI N) mn (va_up K k (k_mendK (K k) 2)) P) ++ (cu_sm C o r g N mn (va_up K k (upd (K k) 5 0)))) H := hP
          have hD : va_D A ((cu_cw C a (nI N) mn (va_up K k (k_mendK (K k) 2)) P) ++ (cu_sm C o r g N mn (va_up K k (upd (K k) 5 0)))) := hD
          refine lv_aload hx hb dL_act_390 (lv_at hl 1 rfl) ?_
          obtain ⟨qa, ha⟩ := List.getElem?_of_mem (cu_sp.mem (cu_sp.inR (X := (cu_cw C a (nI N) mn (va_up K k (k_mendK (K k) 2)) P)) (cu_sm_rd (C := C) (o := o) (r := r) (g := g) (N := N) (mn := mn) (M := (va_up K k (upd (K k) 5 0))) (i := k) (X := (upd (K k) 5 0)) hk (va_up_self K k (upd (K k) 5 0)))))
          refine va_get (D := D) (ci := 2) (v := .int 0) (C := RX2) (T := TX2) (N := 14) hx hb hts hiX2 hown hK hP qa ha rfl 8 (by decide) (hts (.fieldLink RL 67 "CuckooShopLaw$Clock" "goes" "Z") (by decide +kernel)) (fun _ h9 => h9) rfl dL_act_392 ?_
          refine lv_if_eq (tgt := 402) hx hb dL_act_395 (by decide) (fun c_395 => ?_) (fun c_395 => absurd c_395 (by decide))
          refine lv_iconst (v := 0) hx hb dL_act_402 (by decide) ?_
          refine lv_icmp_ne (tgt := 410) hx hb dL_act_403 (by decide) (fun c_403 => absurd (k_nudge_b c_364 (k_in_ok I hk) c_372) c_403) (fun c_403 => ?_)
          refine lv_iconst (v := 1) hx hb dL_act_406 (by decide) ?_
          refine lv_goto (tgt := 411) hx hb dL_act_407 (by decide) ?_
          have eM : (va_up K k (upd (K k) 5 0)) = (va_up K k (k_mendK (K k) 2)) := by rw [k_mendK_2, (k_nudge_b c_364 (k_in_ok I hk) c_372)]
          rw [eM] at hP hD
          refine W.widen (k := 4) (n := 60) (Nat.le_of_ble_eq_true rfl) (Nat.le_of_ble_eq_true rfl) ?_
          exact fin (N, r, g, (va_up K k (k_mendK (K k) 2))) 1 _ _ _ _ rfl ⟨rfl, (k_in_put I hk (k_ok_mend 2 (k_in_ok I hk)) rfl)⟩ hP hD hS dL_act_411
        · refine lv_iconst (v := 1) hx hb dL_act_375 (by decide) ?_
          refine lv_goto (tgt := 380) hx hb dL_act_376 (by decide) ?_
          have sp9 := (cu_sp.inR (X := (cu_cw C a (nI N) mn K P)) (cu_sm_sp (C := C) (o := o) (r := r) (g := g) (N := N) (mn := mn) (M := K) (M' := (va_up K k (upd (K k) 5 1))) (i := k) (X := (K k)) (X' := (upd (K k) 5 1)) hk rfl rfl))
          have hD9 := hD
          obtain ⟨qa, ha⟩ := List.getElem?_of_mem (cu_sp.mem sp9)
          refine va_put (D := D) (ci := 2) (v := .int 1) (ty := .boolean) (C := RX2) (T := TX2) (N := 14) hx hb hts hiX2 tyX2 tyX2_ok nmX2 hown hK hP hD hS qa ha rfl 8 (by decide) (hts (.fieldLink RL 67 "CuckooShopLaw$Clock" "goes" "Z") (by decide +kernel)) (fun _ h9 => h9) rfl (by decide +kernel) rfl rfl (Nat.le_of_ble_eq_true rfl) dL_act_380 (fun H locs hP hD hS => ?_)
          have hP : va_P D vwCl ((cu_cw C a (nI N) mn K P) ++ (cu_sm C o r g N mn (va_up K k (upd (K k) 5 1)))) H := cu_sp.put sp9 ha hD9 hP
          have hD : va_D A ((cu_cw C a (nI N) mn K P) ++ (cu_sm C o r g N mn (va_up K k (upd (K k) 5 1)))) := cu_D_fst sp9.fst hD9
          refine lv_aload_n hx hb dL_act_383 rfl (lv_at hl 4 rfl) ?_
          refine lv_iload hx hb dL_act_384 (lv_at hl 2 rfl) ?_
          refine lv_iconst (v := 2) hx hb dL_act_386 (by decide) ?_
          have sp := (cu_sp.inL (Y := (cu_sm C o r g N mn (va_up K k (upd (K k) 5 1)))) (cu_sp.all (W0 := (cu_cw C a (nI N) mn K P)) (W1 := (cu_cw C a (nI N) mn (va_up K k (k_mendK (K k) 2)) P)) cu_cw_fst))
          refine cu_callXI (vx_runV (As := [.int (nI k), .int 2]) (rest := []) ⟨hx, hb, hml, hown, hts⟩ ((n_mend l hlf D C a N hN mn K P k hk 2 (by decide)) H.size) (cwV 2 hts gL_act_X1_mend rfl rfl rfl (by decide +kernel) ⟨Nat.le_of_ble_eq_true rfl, Nat.le_of_ble_eq_true rfl⟩) (cu_preXV (ci := 1) sp hG hP hD hT hS hA rfl rfl) rfl rfl hl.1 rfl (lv_room (Nat.le_of_ble_eq_true rfl)) dL_act_387 ⟨Nat.le_of_ble_eq_true rfl, Nat.le_of_ble_eq_true rfl⟩) sp hP hD hS hA (fun E _ _ _ _ hoE _ _ _ _ _ _ => by cases hoE) (fun H locs _ hP hD hS => ?_)
          have hP : va_P D vwCl ((cu_cw C a (nI N) mn (va_up K k (k_mendK (K k) 2)) P) ++ (cu_sm C o r g N mn (va_up K k (upd (K k) 5 1)))) H := hP
          have hD : va_D A ((cu_cw C a (nI N) mn (va_up K k (k_mendK (K k) 2)) P) ++ (cu_sm C o r g N mn (va_up K k (upd (K k) 5 1)))) := hD
          refine lv_aload hx hb dL_act_390 (lv_at hl 1 rfl) ?_
          obtain ⟨qa, ha⟩ := List.getElem?_of_mem (cu_sp.mem (cu_sp.inR (X := (cu_cw C a (nI N) mn (va_up K k (k_mendK (K k) 2)) P)) (cu_sm_rd (C := C) (o := o) (r := r) (g := g) (N := N) (mn := mn) (M := (va_up K k (upd (K k) 5 1))) (i := k) (X := (upd (K k) 5 1)) hk (va_up_self K k (upd (K k) 5 1)))))
          refine va_get (D := D) (ci := 2) (v := .int 1) (C := RX2) (T := TX2) (N := 14) hx hb hts hiX2 hown hK hP qa ha rfl 8 (by decide) (hts (.fieldLink RL 67 "CuckooShopLaw$Clock" "goes" "Z") (by decide +kernel)) (fun _ h9 => h9) rfl dL_act_392 ?_
          refine lv_if_eq (tgt := 402) hx hb dL_act_395 (by decide) (fun c_395 => absurd c_395 (by decide)) (fun c_395 => ?_)
          refine lv_iconst (v := 1) hx hb dL_act_398 (by decide) ?_
          refine lv_goto (tgt := 403) hx hb dL_act_399 (by decide) ?_
          refine lv_icmp_ne (tgt := 410) hx hb dL_act_403 (by decide) (fun c_403 => absurd (k_nudge_c c_364 c_372) c_403) (fun c_403 => ?_)
          refine lv_iconst (v := 1) hx hb dL_act_406 (by decide) ?_
          refine lv_goto (tgt := 411) hx hb dL_act_407 (by decide) ?_
          have eM : (va_up K k (upd (K k) 5 1)) = (va_up K k (k_mendK (K k) 2)) := by rw [k_mendK_2, (k_nudge_c c_364 c_372)]
          rw [eM] at hP hD
          refine W.widen (k := 4) (n := 60) (Nat.le_of_ble_eq_true rfl) (Nat.le_of_ble_eq_true rfl) ?_
          exact fin (N, r, g, (va_up K k (k_mendK (K k) 2))) 1 _ _ _ _ rfl ⟨rfl, (k_in_put I hk (k_ok_mend 2 (k_in_ok I hk)) rfl)⟩ hP hD hS dL_act_411
  refine lv_tableOut (tgt := 479) hx hb dL_act_55 (by have q_0 := cu_ne s_0 0 (by decide); have q_1 := cu_ne s_1 1 (by decide); have q_2 := cu_ne s_2 2 (by decide); have q_3 := cu_ne s_3 3 (by decide); have q_4 := cu_ne s_4 4 (by decide); have q_5 := cu_ne s_5 5 (by decide); omega) (by decide) ?_
  refine lv_aload hx hb dL_act_479 (lv_at hl 0 rfl) ?_
  obtain ⟨qa, ha⟩ := List.getElem?_of_mem (cu_sp.mem (cu_sp.inR (X := (cu_cw C a (nI N) mn K P)) (cu_sm_rd (C := C) (o := o) (r := r) (g := g) (N := N) (mn := mn) (M := K) (i := k) (X := (K k)) hk rfl)))
  refine va_get (D := D) (ci := 2) (v := .int ((K k) 12)) (C := RX2) (T := TX2) (N := 14) hx hb hts hiX2 hown hK hP qa ha rfl 12 (by decide) (hts (.fieldLink RL 83 "CuckooShopLaw$Clock" "from" "I") (by decide +kernel)) (fun _ h9 => h9) rfl dL_act_481 ?_
  refine lv_istore (lv' := [(11, .int ((K k) 12)), (5, .ref (g k)), (4, .int (nI k)), (3, .int (nI N)), (0, .ref (a 0)), (1, .ref o), (2, .int v)]) hx hb dL_act_484 hl (by decide) rfl (fun ls hl => ?_)
  refine lv_aload hx hb dL_act_486 (lv_at hl 1 rfl) ?_
  refine lv_iload_n hx hb dL_act_488 rfl (lv_at hl 6 rfl) ?_
  refine lv_bipush (v := 6) hx hb dL_act_489 (by decide) ?_
  refine lv_ishr hx hb dL_act_491 ?_
  refine lv_topi (fun z13 _ => ?_)
  refine lv_iconst (v := 4) hx hb dL_act_492 (by decide) ?_
  have sp := cu_sp.nil (W0 := ((cu_cw C a (nI N) mn K P) ++ (cu_sm C o r g N mn K)))
  refine cu_callI (va_runS (As := [.int z13, .int 4]) (rest := [.ref (g k)]) ⟨hx, hb, hml, hown, hts⟩ ((m_L_below l D C z13 4 (by first | exact hne | decide)) H.size) (va_cwS 2 hts gL_act_L_below rfl rfl rfl (by decide +kernel) ⟨Nat.le_of_ble_eq_true rfl, Nat.le_of_ble_eq_true rfl⟩) (cu_preS sp hG hP hD) rfl rfl hl.1 rfl (lv_room (Nat.le_of_ble_eq_true rfl)) dL_act_493 ⟨Nat.le_of_ble_eq_true rfl, Nat.le_of_ble_eq_true rfl⟩) sp hP hD hS hA (fun H locs hP hD hS => ?_)
  refine lv_if_ne (tgt := 503) hx hb dL_act_496 (by decide) (fun c_496 => ?_) (fun c_496 => ?_)
  · refine lv_iload_n hx hb dL_act_503 rfl (lv_at hl 6 rfl) ?_
    refine lv_iconst (v := 5) hx hb dL_act_504 (by decide) ?_
    refine lv_imul hx hb dL_act_505 ?_
    refine lv_sipush (v := 720) hx hb dL_act_506 (by decide) ?_
    have sp := cu_sp.nil (W0 := ((cu_cw C a (nI N) mn K P) ++ (cu_sm C o r g N mn K)))
    refine cu_callI (va_runS (As := [.int (v * 5), .int 720]) (rest := [.ref (g k)]) ⟨hx, hb, hml, hown, hts⟩ ((m_L_below l D C (v * 5) 720 (by first | exact hne | decide)) H.size) (va_cwS 2 hts gL_act_L_below rfl rfl rfl (by decide +kernel) ⟨Nat.le_of_ble_eq_true rfl, Nat.le_of_ble_eq_true rfl⟩) (cu_preS sp hG hP hD) rfl rfl hl.1 rfl (lv_room (Nat.le_of_ble_eq_true rfl)) dL_act_509 ⟨Nat.le_of_ble_eq_true rfl, Nat.le_of_ble_eq_true rfl⟩) sp hP hD hS hA (fun H locs hP hD hS => ?_)
    have sp9 := (cu_sp.inR (X := (cu_cw C a (nI N) mn K P)) (cu_sm_sp (C := C) (o := o) (r := r) (g := g) (N := N) (mn := mn) (M := K) (M' := (va_up K k (upd (K k) 12 (k_bel (v * 5) 720)))) (i := k) (X := (K k)) (X' := (upd (K k) 12 (k_bel (v * 5) 720))) hk rfl rfl))
    have hD9 := hD
    obtain ⟨qa, ha⟩ := List.getElem?_of_mem (cu_sp.mem sp9)
    refine va_put (D := D) (ci := 2) (v := .int (k_bel (v * 5) 720)) (ty := .int) (C := RX2) (T := TX2) (N := 14) hx hb hts hiX2 tyX2 tyX2_ok nmX2 hown hK hP hD hS qa ha rfl 12 (by decide) (hts (.fieldLink RL 83 "CuckooShopLaw$Clock" "from" "I") (by decide +kernel)) (fun _ h9 => h9) rfl (by decide +kernel) rfl rfl (Nat.le_of_ble_eq_true rfl) dL_act_512 (fun H locs hP hD hS => ?_)
    have hP : va_P D vwCl ((cu_cw C a (nI N) mn K P) ++ (cu_sm C o r g N mn (va_up K k (upd (K k) 12 (k_bel (v * 5) 720))))) H := cu_sp.put sp9 ha hD9 hP
    have hD : va_D A ((cu_cw C a (nI N) mn K P) ++ (cu_sm C o r g N mn (va_up K k (upd (K k) 12 (k_bel (v * 5) 720))))) := cu_D_fst sp9.fst hD9
    refine lv_aload hx hb dL_act_515 (lv_at hl 1 rfl) ?_
    refine lv_aload hx hb dL_act_517 (lv_at hl 1 rfl) ?_
    obtain ⟨qa, ha⟩ := List.getElem?_of_mem (cu_sp.mem (cu_sp.inR (X := (cu_cw C a (nI N) mn K P)) (cu_sm_rd (C := C) (o := o) (r := r) (g := g) (N := N) (mn := mn) (M := (va_up K k (upd (K k) 12 (k_bel (v * 5) 720)))) (i := k) (X := (upd (K k) 12 (k_bel (v * 5) 720))) hk (va_up_self K k (upd (K k) 12 (k_bel (v * 5) 720))))))
    refine va_get (D := D) (ci := 2) (v := .int (k_bel (v * 5) 720)) (C := RX2) (T := TX2) (N := 14) hx hb hts hiX2 hown hK hP qa ha rfl 12 (by decide) (hts (.fieldLink RL 83 "CuckooShopLaw$Clock" "from" "I") (by decide +kernel)) (fun _ h9 => h9) rfl dL_act_519 ?_
    refine lv_if_ge (tgt := 529) hx hb dL_act_522 (by decide) (fun c_522 => ?_) (fun c_522 => absurd (k_nn (k_bel720 _)) c_522)
    refine lv_iload_n hx hb dL_act_529 rfl (lv_at hl 6 rfl) ?_
    refine lv_bipush (v := 8) hx hb dL_act_530 (by decide) ?_
    refine lv_ishr hx hb dL_act_532 ?_
    refine lv_topi (fun z14 _ => ?_)
    refine lv_iconst (v := 5) hx hb dL_act_533 (by decide) ?_
    have sp := cu_sp.nil (W0 := ((cu_cw C a (nI N) mn K P) ++ (cu_sm C o r g N mn (va_up K k (upd (K k) 12 (k_bel (v * 5) 720))))))
    refine cu_callI (va_runS (As := [.int z14, .int 5]) (rest := [.ref (g k)]) ⟨hx, hb, hml, hown, hts⟩ ((m_L_below l D C z14 5 (by first | exact hne | decide)) H.size) (va_cwS 2 hts gL_act_L_below rfl rfl rfl (by decide +kernel) ⟨Nat.le_of_ble_eq_true rfl, Nat.le_of_ble_eq_true rfl⟩) (cu_preS sp hG hP hD) rfl rfl hl.1 rfl (lv_room (Nat.le_of_ble_eq_true rfl)) dL_act_534 ⟨Nat.le_of_ble_eq_true rfl, Nat.le_of_ble_eq_true rfl⟩) sp hP hD hS hA (fun H locs hP hD hS => ?_)
    refine lv_if_ne (tgt := 548) hx hb dL_act_537 (by decide) (fun c_537 => ?_) (fun c_537 => ?_)
    · refine lv_iload_n hx hb dL_act_548 rfl (lv_at hl 6 rfl) ?_
      refine lv_bipush (v := 11) hx hb dL_act_549 (by decide) ?_
      refine lv_imul hx hb dL_act_551 ?_
      refine lv_sipush (v := 720) hx hb dL_act_552 (by decide) ?_
      have sp := cu_sp.nil (W0 := ((cu_cw C a (nI N) mn K P) ++ (cu_sm C o r g N mn (va_up K k (upd (K k) 12 (k_bel (v * 5) 720))))))
      refine cu_callI (va_runS (As := [.int (v * 11), .int 720]) (rest := [.ref (g k)]) ⟨hx, hb, hml, hown, hts⟩ ((m_L_below l D C (v * 11) 720 (by first | exact hne | decide)) H.size) (va_cwS 2 hts gL_act_L_below rfl rfl rfl (by decide +kernel) ⟨Nat.le_of_ble_eq_true rfl, Nat.le_of_ble_eq_true rfl⟩) (cu_preS sp hG hP hD) rfl rfl hl.1 rfl (lv_room (Nat.le_of_ble_eq_true rfl)) dL_act_555 ⟨Nat.le_of_ble_eq_true rfl, Nat.le_of_ble_eq_true rfl⟩) sp hP hD hS hA (fun H locs hP hD hS => ?_)
      have sp9 := (cu_sp.inR (X := (cu_cw C a (nI N) mn K P)) (cu_sm_sp (C := C) (o := o) (r := r) (g := g) (N := N) (mn := mn) (M := (va_up K k (upd (K k) 12 (k_bel (v * 5) 720)))) (M' := (va_up K k (upd (upd (K k) 12 (k_bel (v * 5) 720)) 13 (k_bel (v * 11) 720)))) (i := k) (X := (upd (K k) 12 (k_bel (v * 5) 720))) (X' := (upd (upd (K k) 12 (k_bel (v * 5) 720)) 13 (k_bel (v * 11) 720))) hk (va_up_self K k (upd (K k) 12 (k_bel (v * 5) 720))) (bx_uu K k (upd (K k) 12 (k_bel (v * 5) 720)) (upd (upd (K k) 12 (k_bel (v * 5) 720)) 13 (k_bel (v * 11) 720))).symm))
      have hD9 := hD
      obtain ⟨qa, ha⟩ := List.getElem?_of_mem (cu_sp.mem sp9)
      refine va_put (D := D) (ci := 2) (v := .int (k_bel (v * 11) 720)) (ty := .int) (C := RX2) (T := TX2) (N := 14) hx hb hts hiX2 tyX2 tyX2_ok nmX2 hown hK hP hD hS qa ha rfl 13 (by decide) (hts (.fieldLink RL 86 "CuckooShopLaw$Clock" "till" "I") (by decide +kernel)) (fun _ h9 => h9) rfl (by decide +kernel) rfl rfl (Nat.le_of_ble_eq_true rfl) dL_act_558 (fun H locs hP hD hS => ?_)
      have hP : va_P D vwCl ((cu_cw C a (nI N) mn K P) ++ (cu_sm C o r g N mn (va_up K k (upd (upd (K k) 12 (k_bel (v * 5) 720)) 13 (k_bel (v * 11) 720))))) H := cu_sp.put sp9 ha hD9 hP
      have hD : va_D A ((cu_cw C a (nI N) mn K P) ++ (cu_sm C o r g N mn (va_up K k (upd (upd (K k) 12 (k_bel (v * 5) 720)) 13 (k_bel (v * 11) 720))))) := cu_D_fst sp9.fst hD9
      refine lv_aload_n hx hb dL_act_561 rfl (lv_at hl 4 rfl) ?_
      refine lv_iload hx hb dL_act_562 (lv_at hl 2 rfl) ?_
      refine lv_aload hx hb dL_act_564 (lv_at hl 1 rfl) ?_
      obtain ⟨qa, ha⟩ := List.getElem?_of_mem (cu_sp.mem (cu_sp.inR (X := (cu_cw C a (nI N) mn K P)) (cu_sm_rd (C := C) (o := o) (r := r) (g := g) (N := N) (mn := mn) (M := (va_up K k (upd (upd (K k) 12 (k_bel (v * 5) 720)) 13 (k_bel (v * 11) 720)))) (i := k) (X := (upd (upd (K k) 12 (k_bel (v * 5) 720)) 13 (k_bel (v * 11) 720))) hk (va_up_self K k (upd (upd (K k) 12 (k_bel (v * 5) 720)) 13 (k_bel (v * 11) 720))))))
      refine va_get (D := D) (ci := 2) (v := .int (k_bel (v * 5) 720)) (C := RX2) (T := TX2) (N := 14) hx hb hts hiX2 hown hK hP qa ha rfl 12 (by decide) (hts (.fieldLink RL 83 "CuckooShopLaw$Clock" "from" "I") (by decide +kernel)) (fun _ h9 => h9) rfl dL_act_566 ?_
      refine lv_aload hx hb dL_act_569 (lv_at hl 1 rfl) ?_
      obtain ⟨qa, ha⟩ := List.getElem?_of_mem (cu_sp.mem (cu_sp.inR (X := (cu_cw C a (nI N) mn K P)) (cu_sm_rd (C := C) (o := o) (r := r) (g := g) (N := N) (mn := mn) (M := (va_up K k (upd (upd (K k) 12 (k_bel (v * 5) 720)) 13 (k_bel (v * 11) 720)))) (i := k) (X := (upd (upd (K k) 12 (k_bel (v * 5) 720)) 13 (k_bel (v * 11) 720))) hk (va_up_self K k (upd (upd (K k) 12 (k_bel (v * 5) 720)) 13 (k_bel (v * 11) 720))))))
      refine va_get (D := D) (ci := 2) (v := .int (k_bel (v * 11) 720)) (C := RX2) (T := TX2) (N := 14) hx hb hts hiX2 hown hK hP qa ha rfl 13 (by decide) (hts (.fieldLink RL 86 "CuckooShopLaw$Clock" "till" "I") (by decide +kernel)) (fun _ h9 => h9) rfl dL_act_571 ?_
      have sp := (cu_sp.inL (Y := (cu_sm C o r g N mn (va_up K k (upd (upd (K k) 12 (k_bel (v * 5) 720)) 13 (k_bel (v * 11) 720))))) (cu_sp.all (W0 := (cu_cw C a (nI N) mn K P)) (W1 := (cu_cw C a (nI N) mn (va_up K k (upd (upd (K k) 12 (k_bel (v * 5) 720)) 13 (k_bel (v * 11) 720))) P)) cu_cw_fst))
      refine cu_callXI (vx_runV (As := [.int (nI k), .int (k_bel (v * 5) 720), .int (k_bel (v * 11) 720)]) (rest := []) ⟨hx, hb, hml, hown, hts⟩ ((n_shut l hlf D C a N hN mn K P k hk (k_bel (v * 5) 720) (k_bel (v * 11) 720) (Or.inr (k_bel720 _)) (by first | exact k_bel720 _)) H.size) (cwV 3 hts gL_act_X1_shut rfl rfl rfl (by decide +kernel) ⟨Nat.le_of_ble_eq_true rfl, Nat.le_of_ble_eq_true rfl⟩) (cu_preXV (ci := 1) sp hG hP hD hT hS hA rfl rfl) rfl rfl hl.1 rfl (lv_room (Nat.le_of_ble_eq_true rfl)) dL_act_574 ⟨Nat.le_of_ble_eq_true rfl, Nat.le_of_ble_eq_true rfl⟩) sp hP hD hS hA (fun E _ _ _ _ hoE _ _ _ _ _ _ => by cases hoE) (fun H locs _ hP hD hS => ?_)
      have hP : va_P D vwCl ((cu_cw C a (nI N) mn (va_up K k (upd (upd (K k) 12 (k_bel (v * 5) 720)) 13 (k_bel (v * 11) 720))) P) ++ (cu_sm C o r g N mn (va_up K k (upd (upd (K k) 12 (k_bel (v * 5) 720)) 13 (k_bel (v * 11) 720))))) H := hP
      have hD : va_D A ((cu_cw C a (nI N) mn (va_up K k (upd (upd (K k) 12 (k_bel (v * 5) 720)) 13 (k_bel (v * 11) 720))) P) ++ (cu_sm C o r g N mn (va_up K k (upd (upd (K k) 12 (k_bel (v * 5) 720)) 13 (k_bel (v * 11) 720))))) := hD
      refine lv_iload hx hb dL_act_577 (lv_at hl 0 rfl) ?_
      refine lv_icmp_ne (tgt := 586) hx hb dL_act_579 (by decide) (fun c_579 => absurd rfl c_579) (fun c_579 => ?_)
      refine lv_iconst (v := 1) hx hb dL_act_582 (by decide) ?_
      refine lv_goto (tgt := 587) hx hb dL_act_583 (by decide) ?_
      refine W.widen (k := 4) (n := 60) (Nat.le_of_ble_eq_true rfl) (Nat.le_of_ble_eq_true rfl) ?_
      exact fin (N, r, g, (va_up K k (upd (upd (K k) 12 (k_bel (v * 5) 720)) 13 (k_bel (v * 11) 720)))) 1 _ _ _ _ rfl ⟨rfl, (k_in_put I hk (k_ok_shutN (k_in_ok I hk) (Or.inr (k_bel720 _)) (by exact k_bel720 _)) rfl)⟩ hP hD hS dL_act_587
    · refine lv_aload hx hb dL_act_540 (lv_at hl 1 rfl) ?_
      obtain ⟨qa, ha⟩ := List.getElem?_of_mem (cu_sp.mem (cu_sp.inR (X := (cu_cw C a (nI N) mn K P)) (cu_sm_rd (C := C) (o := o) (r := r) (g := g) (N := N) (mn := mn) (M := (va_up K k (upd (K k) 12 (k_bel (v * 5) 720)))) (i := k) (X := (upd (K k) 12 (k_bel (v * 5) 720))) hk (va_up_self K k (upd (K k) 12 (k_bel (v * 5) 720))))))
      refine va_get (D := D) (ci := 2) (v := .int (k_bel (v * 5) 720)) (C := RX2) (T := TX2) (N := 14) hx hb hts hiX2 hown hK hP qa ha rfl 12 (by decide) (hts (.fieldLink RL 83 "CuckooShopLaw$Clock" "from" "I") (by decide +kernel)) (fun _ h9 => h9) rfl dL_act_542 ?_
      refine lv_goto (tgt := 558) hx hb dL_act_545 (by decide) ?_
      have sp9 := (cu_sp.inR (X := (cu_cw C a (nI N) mn K P)) (cu_sm_sp (C := C) (o := o) (r := r) (g := g) (N := N) (mn := mn) (M := (va_up K k (upd (K k) 12 (k_bel (v * 5) 720)))) (M' := (va_up K k (upd (upd (K k) 12 (k_bel (v * 5) 720)) 13 (k_bel (v * 5) 720)))) (i := k) (X := (upd (K k) 12 (k_bel (v * 5) 720))) (X' := (upd (upd (K k) 12 (k_bel (v * 5) 720)) 13 (k_bel (v * 5) 720))) hk (va_up_self K k (upd (K k) 12 (k_bel (v * 5) 720))) (bx_uu K k (upd (K k) 12 (k_bel (v * 5) 720)) (upd (upd (K k) 12 (k_bel (v * 5) 720)) 13 (k_bel (v * 5) 720))).symm))
      have hD9 := hD
      obtain ⟨qa, ha⟩ := List.getElem?_of_mem (cu_sp.mem sp9)
      refine va_put (D := D) (ci := 2) (v := .int (k_bel (v * 5) 720)) (ty := .int) (C := RX2) (T := TX2) (N := 14) hx hb hts hiX2 tyX2 tyX2_ok nmX2 hown hK hP hD hS qa ha rfl 13 (by decide) (hts (.fieldLink RL 86 "CuckooShopLaw$Clock" "till" "I") (by decide +kernel)) (fun _ h9 => h9) rfl (by decide +kernel) rfl rfl (Nat.le_of_ble_eq_true rfl) dL_act_558 (fun H locs hP hD hS => ?_)
      have hP : va_P D vwCl ((cu_cw C a (nI N) mn K P) ++ (cu_sm C o r g N mn (va_up K k (upd (upd (K k) 12 (k_bel (v * 5) 720)) 13 (k_bel (v * 5) 720))))) H := cu_sp.put sp9 ha hD9 hP
      have hD : va_D A ((cu_cw C a (nI N) mn K P) ++ (cu_sm C o r g N mn (va_up K k (upd (upd (K k) 12 (k_bel (v * 5) 720)) 13 (k_bel (v * 5) 720))))) := cu_D_fst sp9.fst hD9
      refine lv_aload_n hx hb dL_act_561 rfl (lv_at hl 4 rfl) ?_
      refine lv_iload hx hb dL_act_562 (lv_at hl 2 rfl) ?_
      refine lv_aload hx hb dL_act_564 (lv_at hl 1 rfl) ?_
      obtain ⟨qa, ha⟩ := List.getElem?_of_mem (cu_sp.mem (cu_sp.inR (X := (cu_cw C a (nI N) mn K P)) (cu_sm_rd (C := C) (o := o) (r := r) (g := g) (N := N) (mn := mn) (M := (va_up K k (upd (upd (K k) 12 (k_bel (v * 5) 720)) 13 (k_bel (v * 5) 720)))) (i := k) (X := (upd (upd (K k) 12 (k_bel (v * 5) 720)) 13 (k_bel (v * 5) 720))) hk (va_up_self K k (upd (upd (K k) 12 (k_bel (v * 5) 720)) 13 (k_bel (v * 5) 720))))))
      refine va_get (D := D) (ci := 2) (v := .int (k_bel (v * 5) 720)) (C := RX2) (T := TX2) (N := 14) hx hb hts hiX2 hown hK hP qa ha rfl 12 (by decide) (hts (.fieldLink RL 83 "CuckooShopLaw$Clock" "from" "I") (by decide +kernel)) (fun _ h9 => h9) rfl dL_act_566 ?_
      refine lv_aload hx hb dL_act_569 (lv_at hl 1 rfl) ?_
      obtain ⟨qa, ha⟩ := List.getElem?_of_mem (cu_sp.mem (cu_sp.inR (X := (cu_cw C a (nI N) mn K P)) (cu_sm_rd (C := C) (o := o) (r := r) (g := g) (N := N) (mn := mn) (M := (va_up K k (upd (upd (K k) 12 (k_bel (v * 5) 720)) 13 (k_bel (v * 5) 720)))) (i := k) (X := (upd (upd (K k) 12 (k_bel (v * 5) 720)) 13 (k_bel (v * 5) 720))) hk (va_up_self K k (upd (upd (K k) 12 (k_bel (v * 5) 720)) 13 (k_bel (v * 5) 720))))))
      refine va_get (D := D) (ci := 2) (v := .int (k_bel (v * 5) 720)) (C := RX2) (T := TX2) (N := 14) hx hb hts hiX2 hown hK hP qa ha rfl 13 (by decide) (hts (.fieldLink RL 86 "CuckooShopLaw$Clock" "till" "I") (by decide +kernel)) (fun _ h9 => h9) rfl dL_act_571 ?_
      have sp := (cu_sp.inL (Y := (cu_sm C o r g N mn (va_up K k (upd (upd (K k) 12 (k_bel (v * 5) 720)) 13 (k_bel (v * 5) 720))))) (cu_sp.all (W0 := (cu_cw C a (nI N) mn K P)) (W1 := (cu_cw C a (nI N) mn (va_up K k (upd (upd (K k) 12 (k_bel (v * 5) 720)) 13 (k_bel (v * 5) 720))) P)) cu_cw_fst))
      refine cu_callXI (vx_runV (As := [.int (nI k), .int (k_bel (v * 5) 720), .int (k_bel (v * 5) 720)]) (rest := []) ⟨hx, hb, hml, hown, hts⟩ ((n_shut l hlf D C a N hN mn K P k hk (k_bel (v * 5) 720) (k_bel (v * 5) 720) (Or.inr (k_bel720 _)) (by first | exact k_bel720 _)) H.size) (cwV 3 hts gL_act_X1_shut rfl rfl rfl (by decide +kernel) ⟨Nat.le_of_ble_eq_true rfl, Nat.le_of_ble_eq_true rfl⟩) (cu_preXV (ci := 1) sp hG hP hD hT hS hA rfl rfl) rfl rfl hl.1 rfl (lv_room (Nat.le_of_ble_eq_true rfl)) dL_act_574 ⟨Nat.le_of_ble_eq_true rfl, Nat.le_of_ble_eq_true rfl⟩) sp hP hD hS hA (fun E _ _ _ _ hoE _ _ _ _ _ _ => by cases hoE) (fun H locs _ hP hD hS => ?_)
      have hP : va_P D vwCl ((cu_cw C a (nI N) mn (va_up K k (upd (upd (K k) 12 (k_bel (v * 5) 720)) 13 (k_bel (v * 5) 720))) P) ++ (cu_sm C o r g N mn (va_up K k (upd (upd (K k) 12 (k_bel (v * 5) 720)) 13 (k_bel (v * 5) 720))))) H := hP
      have hD : va_D A ((cu_cw C a (nI N) mn (va_up K k (upd (upd (K k) 12 (k_bel (v * 5) 720)) 13 (k_bel (v * 5) 720))) P) ++ (cu_sm C o r g N mn (va_up K k (upd (upd (K k) 12 (k_bel (v * 5) 720)) 13 (k_bel (v * 5) 720))))) := hD
      refine lv_iload hx hb dL_act_577 (lv_at hl 0 rfl) ?_
      refine lv_icmp_ne (tgt := 586) hx hb dL_act_579 (by decide) (fun c_579 => absurd rfl c_579) (fun c_579 => ?_)
      refine lv_iconst (v := 1) hx hb dL_act_582 (by decide) ?_
      refine lv_goto (tgt := 587) hx hb dL_act_583 (by decide) ?_
      refine W.widen (k := 4) (n := 60) (Nat.le_of_ble_eq_true rfl) (Nat.le_of_ble_eq_true rfl) ?_
      exact fin (N, r, g, (va_up K k (upd (upd (K k) 12 (k_bel (v * 5) 720)) 13 (k_bel (v * 5) 720)))) 1 _ _ _ _ rfl ⟨rfl, (k_in_put I hk (k_ok_shutN (k_in_ok I hk) (Or.inr (k_bel720 _)) (by exact k_bel720 _)) rfl)⟩ hP hD hS dL_act_587
  · refine lv_iconst (v := -1) hx hb dL_act_499 (by decide) ?_
    refine lv_goto (tgt := 512) hx hb dL_act_500 (by decide) ?_
    have sp9 := (cu_sp.inR (X := (cu_cw C a (nI N) mn K P)) (cu_sm_sp (C := C) (o := o) (r := r) (g := g) (N := N) (mn := mn) (M := K) (M' := (va_up K k (upd (K k) 12 (-1)))) (i := k) (X := (K k)) (X' := (upd (K k) 12 (-1))) hk rfl rfl))
    have hD9 := hD
    obtain ⟨qa, ha⟩ := List.getElem?_of_mem (cu_sp.mem sp9)
    refine va_put (D := D) (ci := 2) (v := .int (-1)) (ty := .int) (C := RX2) (T := TX2) (N := 14) hx hb hts hiX2 tyX2 tyX2_ok nmX2 hown hK hP hD hS qa ha rfl 12 (by decide) (hts (.fieldLink RL 83 "CuckooShopLaw$Clock" "from" "I") (by decide +kernel)) (fun _ h9 => h9) rfl (by decide +kernel) rfl rfl (Nat.le_of_ble_eq_true rfl) dL_act_512 (fun H locs hP hD hS => ?_)
    have hP : va_P D vwCl ((cu_cw C a (nI N) mn K P) ++ (cu_sm C o r g N mn (va_up K k (upd (K k) 12 (-1))))) H := cu_sp.put sp9 ha hD9 hP
    have hD : va_D A ((cu_cw C a (nI N) mn K P) ++ (cu_sm C o r g N mn (va_up K k (upd (K k) 12 (-1))))) := cu_D_fst sp9.fst hD9
    refine lv_aload hx hb dL_act_515 (lv_at hl 1 rfl) ?_
    refine lv_aload hx hb dL_act_517 (lv_at hl 1 rfl) ?_
    obtain ⟨qa, ha⟩ := List.getElem?_of_mem (cu_sp.mem (cu_sp.inR (X := (cu_cw C a (nI N) mn K P)) (cu_sm_rd (C := C) (o := o) (r := r) (g := g) (N := N) (mn := mn) (M := (va_up K k (upd (K k) 12 (-1)))) (i := k) (X := (upd (K k) 12 (-1))) hk (va_up_self K k (upd (K k) 12 (-1))))))
    refine va_get (D := D) (ci := 2) (v := .int (-1)) (C := RX2) (T := TX2) (N := 14) hx hb hts hiX2 hown hK hP qa ha rfl 12 (by decide) (hts (.fieldLink RL 83 "CuckooShopLaw$Clock" "from" "I") (by decide +kernel)) (fun _ h9 => h9) rfl dL_act_519 ?_
    refine lv_if_ge (tgt := 529) hx hb dL_act_522 (by decide) (fun c_522 => absurd c_522 (by decide)) (fun c_522 => ?_)
    refine lv_iconst (v := 0) hx hb dL_act_525 (by decide) ?_
    refine lv_goto (tgt := 558) hx hb dL_act_526 (by decide) ?_
    have sp9 := (cu_sp.inR (X := (cu_cw C a (nI N) mn K P)) (cu_sm_sp (C := C) (o := o) (r := r) (g := g) (N := N) (mn := mn) (M := (va_up K k (upd (K k) 12 (-1)))) (M' := (va_up K k (upd (upd (K k) 12 (-1)) 13 0))) (i := k) (X := (upd (K k) 12 (-1))) (X' := (upd (upd (K k) 12 (-1)) 13 0)) hk (va_up_self K k (upd (K k) 12 (-1))) (bx_uu K k (upd (K k) 12 (-1)) (upd (upd (K k) 12 (-1)) 13 0)).symm))
    have hD9 := hD
    obtain ⟨qa, ha⟩ := List.getElem?_of_mem (cu_sp.mem sp9)
    refine va_put (D := D) (ci := 2) (v := .int 0) (ty := .int) (C := RX2) (T := TX2) (N := 14) hx hb hts hiX2 tyX2 tyX2_ok nmX2 hown hK hP hD hS qa ha rfl 13 (by decide) (hts (.fieldLink RL 86 "CuckooShopLaw$Clock" "till" "I") (by decide +kernel)) (fun _ h9 => h9) rfl (by decide +kernel) rfl rfl (Nat.le_of_ble_eq_true rfl) dL_act_558 (fun H locs hP hD hS => ?_)
    have hP : va_P D vwCl ((cu_cw C a (nI N) mn K P) ++ (cu_sm C o r g N mn (va_up K k (upd (upd (K k) 12 (-1)) 13 0)))) H := cu_sp.put sp9 ha hD9 hP
    have hD : va_D A ((cu_cw C a (nI N) mn K P) ++ (cu_sm C o r g N mn (va_up K k (upd (upd (K k) 12 (-1)) 13 0)))) := cu_D_fst sp9.fst hD9
    refine lv_aload_n hx hb dL_act_561 rfl (lv_at hl 4 rfl) ?_
    refine lv_iload hx hb dL_act_562 (lv_at hl 2 rfl) ?_
    refine lv_aload hx hb dL_act_564 (lv_at hl 1 rfl) ?_
    obtain ⟨qa, ha⟩ := List.getElem?_of_mem (cu_sp.mem (cu_sp.inR (X := (cu_cw C a (nI N) mn K P)) (cu_sm_rd (C := C) (o := o) (r := r) (g := g) (N := N) (mn := mn) (M := (va_up K k (upd (upd (K k) 12 (-1)) 13 0))) (i := k) (X := (upd (upd (K k) 12 (-1)) 13 0)) hk (va_up_self K k (upd (upd (K k) 12 (-1)) 13 0)))))
    refine va_get (D := D) (ci := 2) (v := .int (-1)) (C := RX2) (T := TX2) (N := 14) hx hb hts hiX2 hown hK hP qa ha rfl 12 (by decide) (hts (.fieldLink RL 83 "CuckooShopLaw$Clock" "from" "I") (by decide +kernel)) (fun _ h9 => h9) rfl dL_act_566 ?_
    refine lv_aload hx hb dL_act_569 (lv_at hl 1 rfl) ?_
    obtain ⟨qa, ha⟩ := List.getElem?_of_mem (cu_sp.mem (cu_sp.inR (X := (cu_cw C a (nI N) mn K P)) (cu_sm_rd (C := C) (o := o) (r := r) (g := g) (N := N) (mn := mn) (M := (va_up K k (upd (upd (K k) 12 (-1)) 13 0))) (i := k) (X := (upd (upd (K k) 12 (-1)) 13 0)) hk (va_up_self K k (upd (upd (K k) 12 (-1)) 13 0)))))
    refine va_get (D := D) (ci := 2) (v := .int 0) (C := RX2) (T := TX2) (N := 14) hx hb hts hiX2 hown hK hP qa ha rfl 13 (by decide) (hts (.fieldLink RL 86 "CuckooShopLaw$Clock" "till" "I") (by decide +kernel)) (fun _ h9 => h9) rfl dL_act_571 ?_
    have sp := (cu_sp.inL (Y := (cu_sm C o r g N mn (va_up K k (upd (upd (K k) 12 (-1)) 13 0)))) (cu_sp.all (W0 := (cu_cw C a (nI N) mn K P)) (W1 := (cu_cw C a (nI N) mn (va_up K k (upd (upd (K k) 12 (-1)) 13 0)) P)) cu_cw_fst))
    refine cu_callXI (vx_runV (As := [.int (nI k), .int (-1), .int 0]) (rest := []) ⟨hx, hb, hml, hown, hts⟩ ((n_shut l hlf D C a N hN mn K P k hk (-1) 0 (Or.inl ⟨rfl, rfl⟩) (by decide)) H.size) (cwV 3 hts gL_act_X1_shut rfl rfl rfl (by decide +kernel) ⟨Nat.le_of_ble_eq_true rfl, Nat.le_of_ble_eq_true rfl⟩) (cu_preXV (ci := 1) sp hG hP hD hT hS hA rfl rfl) rfl rfl hl.1 rfl (lv_room (Nat.le_of_ble_eq_true rfl)) dL_act_574 ⟨Nat.le_of_ble_eq_true rfl, Nat.le_of_ble_eq_true rfl⟩) sp hP hD hS hA (fun E _ _ _ _ hoE _ _ _ _ _ _ => by cases hoE) (fun H locs _ hP hD hS => ?_)
    have hP : va_P D vwCl ((cu_cw C a (nI N) mn (va_up K k (upd (upd (K k) 12 (-1)) 13 0)) P) ++ (cu_sm C o r g N mn (va_up K k (upd (upd (K k) 12 (-1)) 13 0)))) H := hP
    have hD : va_D A ((cu_cw C a (nI N) mn (va_up K k (upd (upd (K k) 12 (-1)) 13 0)) P) ++ (cu_sm C o r g N mn (va_up K k (upd (upd (K k) 12 (-1)) 13 0)))) := hD
    refine lv_iload hx hb dL_act_577 (lv_at hl 0 rfl) ?_
    refine lv_icmp_ne (tgt := 586) hx hb dL_act_579 (by decide) (fun c_579 => absurd rfl c_579) (fun c_579 => ?_)
    refine lv_iconst (v := 1) hx hb dL_act_582 (by decide) ?_
    refine lv_goto (tgt := 587) hx hb dL_act_583 (by decide) ?_
    refine W.widen (k := 4) (n := 60) (Nat.le_of_ble_eq_true rfl) (Nat.le_of_ble_eq_true rfl) ?_
    exact fin (N, r, g, (va_up K k (upd (upd (K k) 12 (-1)) 13 0))) 1 _ _ _ _ rfl ⟨rfl, (k_in_put I hk (k_ok_shutN (k_in_ok I hk) (Or.inl rfl) (by decide)) rfl)⟩ hP hD hS dL_act_587
