/-! the shop that cells choose -/
theorem k_rem {i n : Nat} (hi : i < 2147483648) (h0 : 0 < n) (hn : n < 2147483648) : nI i - nI i / nI n * nI n = nI (i % n) := by
  have e1 := nI_toInt (n := i) hi
  have e2 := nI_toInt (n := n) hn
  have h9 := Nat.mod_lt i h0
  rw [i_eq, i_rem (by rw [e1]; omega) (by rw [e2]; omega), e1, e2, nI_toInt (by omega)]
  omega
set_option maxHeartbeats 4000000 in
set_option maxRecDepth 100000 in
theorem m_L_build (l : Launch) (hlf : l.stackTraces = false) (D : va_G) (C : Nat → ClassId) (a : Nat → Nat) (P : Nat → Nat → Int32) (b L : Nat) (xs : Nat → Int32) (hL : L ≤ 260) : cu_GR l D C yL_build wsL_build { frames := 9, cells := 100, slots := 1500, locals := 180 } [.ref (a 0), .ref b] (cu_cw C a (nI 0) 0 (fun _ => k_new (fun _ => 0)) P) (cu_xS b L xs) (fun u : Nat × Nat × (Nat → Nat) × (Nat → Nat → Int32) => k_in u.1 0 u.2.2.2 0) (fun u o => cu_cw C a (nI u.1) 0 u.2.2.2 P ++ cu_sm C o u.2.1 u.2.2.1 u.1 0 u.2.2.2) 100 1500 := by
  refine cu_openGR (cc := cL_build) (maxL := 4) (own := RL) (by decide) rfl rfl (Or.inl ⟨_, rfl⟩) (Nat.le_of_ble_eq_true rfl) ?_
  intro p e s m args below meth c A Z H0 ls e0 hx hb hml hts hown hnm hG hP hD hS hA hl hE fin
  obtain ⟨hT, hX, hbl, hbA⟩ := hE
  rw [e0] at hX hT
  have hK := hG.1
  have hl : lv_has ls 4 [(0, .ref (a 0)), (1, .ref b)] := hl
  have hiX3 : ∀ w ∈ wsX30, w ∈ wsL_build := fun _ h => List.mem_cons_of_mem _ (List.mem_append_left _ (List.mem_append_left _ (List.mem_append_left _ (List.mem_append_left _ (List.mem_append_left _ (List.mem_append_left _ (List.mem_append_right _ h)))))))
  have hf3 : ∀ j, j < 2 → defaultValue (tyX3 j) = vp_V [.null, .int 0] j := by
    intro j hj
    have h9 : j = 0 ∨ j = 1 := by omega
    rcases h9 with rfl | rfl <;> rfl
  refine va_new (ci := 3) (C := RX3) (T := TX3) (N := 2) (fs := [.null, .int 0]) hx hb hts hiX3 tyX3 tyX3_ok hown (hts (.classLink RL 10 RX3) (by decide +kernel)) (hts (.instantiable RX3 2) (by decide +kernel)) (hts (.initialized RX3) (by decide +kernel)) hK hP hD hS hA rfl hf3 (Nat.le_of_ble_eq_true rfl) (Nat.le_of_ble_eq_true rfl) dL_build_0 (fun o H hP hD hS => ?_)
  refine lv_dup hx hb dL_build_3 rfl ?_
  have sp := cu_sp.suf (X := cu_cw C a (nI 0) 0 (fun _ => k_new (fun _ => 0)) P) (w := [(o, .inr (3, [.null, .int 0]))]) (w' := [(o, .inr (3, [.null, .int 0]))]) rfl
  have hF := sp.F hD hS hA
  refine cu_callN (va_runIN (As := []) (rest := [.ref o]) ⟨hx, hb, hml, hown, hts⟩ (m_X3_minit l D C o H.size) ⟨(va_cnB 0 hts gL_build_X3_init_n93 rfl rfl rfl (hG.2.2.2.2.1 (RL, 93, yX3_init) (by decide +kernel)) (hts (.initialized RX3) (by decide +kernel)) (by decide +kernel) ⟨Nat.le_of_ble_eq_true rfl, Nat.le_of_ble_eq_true rfl⟩), rfl, hts (.instanceMethod yX3_init) (by decide +kernel)⟩ (cu_preS sp hG hP hD) rfl rfl hl.1 rfl (lv_room (Nat.le_of_ble_eq_true rfl)) dL_build_4 ⟨Nat.le_of_ble_eq_true rfl, Nat.le_of_ble_eq_true rfl⟩) hF hS (fun r H1 locs1 _ hP1 hD1 hz hk hS => ?_)
  obtain ⟨hP, hD⟩ := cu_joinR hP hD hP1 hD1 hk hF
  refine lv_astore_n (lv' := [(2, .ref o), (0, .ref (a 0)), (1, .ref b)]) hx hb dL_build_7 rfl hl (by decide) rfl (fun ls hl => ?_)
  refine lv_iconst (v := 0) hx hb dL_build_8 (by decide) ?_
  refine lv_istore_n (lv' := [(3, .int (nI 0)), (2, .ref o), (0, .ref (a 0)), (1, .ref b)]) hx hb dL_build_9 rfl hl (by decide) rfl (fun ls hl => ?_)
  refine W.widen (k := 2 + 4 * 0) (n := 2 + 60 * 0) (Nat.le_of_ble_eq_true rfl) (Nat.le_of_ble_eq_true rfl) ?_
  have loop : ∀ (j i : Nat) (N r : Nat) (g : Nat → Nat) (K : Nat → Nat → Int32), i + j = 22 → k_in N 0 K 0 → ∀ (H : Heap) (locs : List Loc) (ls : Array Slot), va_P D vwCl (cu_cw C a (nI N) 0 K P ++ cu_sm C o r g N 0 K) H → va_D A (cu_cw C a (nI N) 0 K P ++ cu_sm C o r g N 0 K) → va_S A H0 H locs → lv_has ls 4 [(3, .int (nI i)), (2, .ref o), (0, .ref (a 0)), (1, .ref b)] →
      W p l e { frames := 9, cells := 100, slots := 1500, locals := 180 } s m args below meth c H locs (2 + 4 * i) (2 + 60 * i) Z (F0 m 10 ls []) := by
    intro j
    induction j with
    | zero =>
      intro i N r g K hj I H locs ls hP hD hS hl
      refine lv_iload_n hx hb dL_build_10 rfl (lv_at hl 0 rfl) ?_
      refine lv_bipush (v := 22) hx hb dL_build_11 (by decide) ?_
      refine lv_icmp_ge (tgt := 73) hx hb dL_build_13 (by decide) (fun _ => ?_) (fun z => absurd (nI_le (a := 22) (by omega) (by omega)) z)
      refine lv_aload_n hx hb dL_build_73 rfl (lv_at hl 1 rfl) ?_
      refine W.widen (k := 100) (n := 1500) (by omega) (by omega) ?_
      exact fin (N, r, g, K) o _ _ _ _ I hP hD hS dL_build_74
    | succ j ih =>
      intro i N r g K hj I H locs ls hP hD hS hl
      refine lv_iload_n hx hb dL_build_10 rfl (lv_at hl 0 rfl) ?_
      refine lv_bipush (v := 22) hx hb dL_build_11 (by decide) ?_
      refine lv_icmp_ge (tgt := 73) hx hb dL_build_13 (by decide) (fun z => absurd z (nI_ge (b := 22) (by omega) (by decide))) (fun _ => ?_)
      refine lv_aload_n hx hb dL_build_16 rfl (lv_at hl 2 rfl) ?_
      refine lv_aload_n hx hb dL_build_17 rfl (lv_at hl 1 rfl) ?_
      refine lv_aload_n hx hb dL_build_18 rfl (lv_at hl 3 rfl) ?_
      refine lv_iload_n hx hb dL_build_19 rfl (lv_at hl 0 rfl) ?_
      refine lv_bipush (v := 11) hx hb dL_build_20 (by decide) ?_
      refine lv_irem hx hb dL_build_22 (by decide) ?_
      refine cu_top (x' := nI (i % 11)) (k_rem (n := 11) (by omega) (by omega) (by omega)) ?_
      have hb9 : i % 11 < 11 := Nat.mod_lt i (by omega)
      have sp := cu_sp.nil (W0 := cu_cw C a (nI N) 0 K P ++ cu_sm C o r g N 0 K)
      have hF := sp.F hD hS hA
      refine cu_callGI (va_runS (As := [.ref b, .int (nI (i % 11))]) (rest := [.ref o, .ref (a 0)]) ⟨hx, hb, hml, hown, hts⟩ (m_L_cell l D C b L xs hL (i % 11) (by omega) H.size) (va_cwS 2 hts gL_build_L_cell rfl rfl rfl (by decide +kernel) ⟨Nat.le_of_ble_eq_true rfl, Nat.le_of_ble_eq_true rfl⟩) (cu_preGS sp hG hP hD cu_bl_S (cu_at_S sp hD hT hX hbl hbA hS hA)) rfl rfl hl.1 rfl (lv_room (Nat.le_of_ble_eq_true rfl)) dL_build_23 ⟨by show 2 + 4 * i + 0 ≤ 100; omega, by show 2 + 60 * i + 0 ≤ 1500; omega⟩) hF hS (fun z _ H1 locs1 _ _ _ hz hk hS => ?_)
      have hP := cu_keep hP hk
      refine lv_iload_n hx hb dL_build_26 rfl (lv_at hl 0 rfl) ?_
      refine lv_bipush (v := 11) hx hb dL_build_27 (by decide) ?_
      refine lv_idiv hx hb dL_build_29 (by decide) ?_
      refine lv_iconst (v := 4) hx hb dL_build_30 (by decide) ?_
      refine lv_imul hx hb dL_build_31 ?_
      refine lv_ishr hx hb dL_build_32 ?_
      refine lv_sipush (v := 131) hx hb dL_build_33 (by decide) ?_
      refine lv_iload_n hx hb dL_build_36 rfl (lv_at hl 0 rfl) ?_
      refine lv_imul hx hb dL_build_37 ?_
      refine lv_iadd hx hb dL_build_38 ?_
      refine lv_topi (fun q _ => ?_)
      have J : ∀ y : Int32, W p l e { frames := 9, cells := 100, slots := 1500, locals := 180 } s m args below meth c H1 locs1 (2 + 4 * i + 0) (2 + 60 * i + 0) Z (F0 m 58 ls [.int y, .int q, .ref o, .ref (a 0)]) := by
        intro y
        refine lv_iadd hx hb dL_build_58 ?_
        refine lv_topi (fun x _ => ?_)
        have sp := cu_sp.all (W0 := cu_cw C a (nI N) 0 K P ++ cu_sm C o r g N 0 K) (W1 := cu_cw C a (nI N) 0 K P ++ cu_sm C o r g N 0 K) rfl
        have hF := sp.F hD hS hA
        refine cu_callGI (va_runS (As := [.ref (a 0), .ref o, .int x]) (rest := []) ⟨hx, hb, hml, hown, hts⟩ (m_L_act l hlf D C a o r g N 0 K P 0 x I H1.size) (va_cwS 3 hts gL_build_L_act rfl rfl rfl (by decide +kernel) ⟨Nat.le_of_ble_eq_true rfl, Nat.le_of_ble_eq_true rfl⟩) (cu_preGS sp hG hP hD cu_bl_T (cu_at_T sp hD hT hS hA)) rfl rfl hl.1 rfl (lv_room (Nat.le_of_ble_eq_true rfl)) dL_build_59 ⟨by show 2 + 4 * i + 0 + 4 ≤ 100; omega, by show 2 + 60 * i + 0 + 60 ≤ 1500; omega⟩) hF hS (fun v u H2 locs2 hu hP2 hD2 _ _ hS => ?_)
        obtain ⟨rfl, I2⟩ := hu
        refine lv_if_ne (tgt := 67) hx hb dL_build_62 (by decide) (fun _ => ?_) (fun z => absurd z (by decide))
        refine lv_iinc (v := nI (i + 1)) (lv' := [(3, .int (nI (i + 1))), (2, .ref o), (0, .ref (a 0)), (1, .ref b)]) hx hb dL_build_67 hl (k := 0) rfl (nI_1 i) (by decide) rfl (fun ls hl => ?_)
        refine lv_goto (tgt := 10) hx hb dL_build_70 (by decide) ?_
        refine W.widen (k := 2 + 4 * (i + 1)) (n := 2 + 60 * (i + 1)) (by omega) (by omega) ?_
        exact ih (i + 1) u.1 u.2.1 u.2.2.1 u.2.2.2 (by omega) I2 _ _ _ hP2 (hD2.weaken (fun _ _ _ h => hF _ h)) hS hl
      refine lv_iload_n hx hb dL_build_39 rfl (lv_at hl 0 rfl) ?_
      refine lv_iconst (v := 3) hx hb dL_build_40 (by decide) ?_
      refine lv_irem hx hb dL_build_41 (by decide) ?_
      refine lv_if_ne (tgt := 55) hx hb dL_build_42 (by decide) (fun _ => ?_) (fun _ => ?_)
      · refine lv_sipush (v := 512) hx hb dL_build_55 (by decide) ?_
        exact J _
      · refine lv_iload_n hx hb dL_build_45 rfl (lv_at hl 0 rfl) ?_
        refine lv_bipush (v := 12) hx hb dL_build_46 (by decide) ?_
        refine lv_icmp_ge (tgt := 55) hx hb dL_build_48 (by decide) (fun _ => ?_) (fun _ => ?_)
        · refine lv_sipush (v := 512) hx hb dL_build_55 (by decide) ?_
          exact J _
        · refine lv_iconst (v := 0) hx hb dL_build_51 (by decide) ?_
          refine lv_goto (tgt := 58) hx hb dL_build_52 (by decide) ?_
          exact J _
  exact loop 22 0 0 r (fun _ => 0) (fun _ => k_new (fun _ => 0)) (by omega) ⟨by omega, fun _ _ => rfl, fun i hi => absurd hi (Nat.not_lt_zero i), by decide, by decide⟩ _ _ _ hP hD hS hl
