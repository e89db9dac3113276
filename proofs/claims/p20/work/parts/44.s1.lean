/-! the law: one thing is done, maybe some minutes go by -/
theorem k_go100 (z : Int32) : ∃ j : Nat, 1 ≤ j ∧ j ≤ 100 ∧ 1 + k_bel z 100 = nI j := by
  have h := k_bel_bd (v := z) (n := 100) (by decide)
  have e100 : (100 : Int32).toInt = 100 := by decide
  rw [e100] at h
  have e : (1 + k_bel z 100).toInt = 1 + (k_bel z 100).toInt := by rw [i_add (by rw [e_1]; omega) (by rw [e_1]; omega), e_1]
  obtain ⟨j, hj, ej⟩ := nI_of (x := 1 + k_bel z 100) (by rw [i_lt, e_0, e]; omega)
  have h9 := nI_toInt (n := j) hj
  rw [← ej, e] at h9
  exact ⟨j, by omega, by omega, ej⟩
set_option maxHeartbeats 4000000 in
set_option maxRecDepth 100000 in
theorem lw_s1 {p : Program} {l : Launch} {e : Env} {s : State} {m : MethodId} {args : Array Value} {below : List Frame} {meth : Method} {c : Code} {A : Nat → Prop} {Z : State → Prop} {H0 H : Heap} {locs : List Loc} {ls : Array Slot} {D : va_G} {C : Nat → ClassId} {sb L cells slots : Nat} {xs : Nat → Int32} {a : Nat → Nat} {o r : Nat} {g : Nat → Nat} {N t : Nat} {mn : Int32} {K P : Nat → Nat → Int32} (XC : lw_cx p l s m args c A H0 D C sb L xs) (I : k_in N mn K (101 * t)) (ht : t < 44) (hc : cells + 20 ≤ 600104) (hs : slots + 200 ≤ 7301314) (hP : va_P D vwCl (cu_cw C a (nI N) mn K P ++ cu_sm C o r g N mn K) H) (hD : va_D A (cu_cw C a (nI N) mn K P ++ cu_sm C o r g N mn K)) (hS : va_S A H0 H locs) (hl : lv_has ls 26 [(3, .int (nI t)), (2, .ref o), (1, .ref (a 0)), (0, .ref sb)])
    (kk : ∀ (x : Int32) (N r : Nat) (g : Nat → Nat) (mn : Int32) (K : Nat → Nat → Int32) (H : Heap) (locs : List Loc) (ls : Array Slot), k_in N mn K (101 * t + 100) → va_P D vwCl (cu_cw C a (nI N) mn K P ++ cu_sm C o r g N mn K) H → va_D A (cu_cw C a (nI N) mn K P ++ cu_sm C o r g N mn K) → va_S A H0 H locs → lv_has ls 26 [(0, .ref sb), (1, .ref (a 0)), (2, .ref o), (3, .int (nI t)), (4, .int x)] → W p l e room_1 s m args below meth c H locs (cells + 20) (slots + 200) Z (F0 m 111 ls [])) : W p l e room_1 s m args below meth c H locs cells slots Z (F0 m 28 ls []) := by
  obtain ⟨hx, hb, hml, hts, hown, hG, hT, hX, hbl, hbA, hA, hlf, hL⟩ := XC
  have hK := hG.1
  have hN := I.1
  refine lv_aload_n hx hb dL_law_28 rfl (lv_at hl 3 rfl) ?_
  refine lv_iload_n hx hb dL_law_29 rfl (lv_at hl 0 rfl) ?_
  refine lv_bipush (v := 16) hx hb dL_law_30 (by decide) ?_
  refine lv_irem hx hb dL_law_32 (by decide) ?_
  refine cu_top (x' := nI (t % 16)) (k_rem (n := 16) (by omega) (by omega) (by omega)) ?_
  have hb9 : t % 16 < 16 := Nat.mod_lt t (by omega)
  have sp := cu_sp.nil (W0 := cu_cw C a (nI N) mn K P ++ cu_sm C o r g N mn K)
  have hF := sp.F hD hS hA
  refine cu_callGI (va_runS (As := [.ref sb, .int (nI (t % 16))]) (rest := []) ⟨hx, hb, hml, hown, hts⟩ (m_L_cell l D C sb L xs hL (t % 16) (by omega) H.size) (va_cwS 2 hts gL_law_L_cell rfl rfl rfl (by decide +kernel) ⟨Nat.le_of_ble_eq_true rfl, Nat.le_of_ble_eq_true rfl⟩) (cu_preGS sp hG hP hD cu_bl_S (cu_at_S sp hD hT hX hbl hbA hS hA)) rfl rfl hl.1 rfl (lv_room (Nat.le_of_ble_eq_true rfl)) dL_law_33 ⟨by show cells + 0 ≤ 600104; omega, by show slots + 0 ≤ 7301314; omega⟩) hF hS (fun z _ H1 locs1 _ _ _ hz hk hS => ?_)
  have hP := cu_keep hP hk
  refine lv_iload_n hx hb dL_law_36 rfl (lv_at hl 0 rfl) ?_
  refine lv_bipush (v := 16) hx hb dL_law_37 (by decide) ?_
  refine lv_idiv hx hb dL_law_39 (by decide) ?_
  refine lv_iconst (v := 3) hx hb dL_law_40 (by decide) ?_
  refine lv_imul hx hb dL_law_41 ?_
  refine lv_ishr hx hb dL_law_42 ?_
  refine lv_sipush (v := 131) hx hb dL_law_43 (by decide) ?_
  refine lv_iload_n hx hb dL_law_46 rfl (lv_at hl 0 rfl) ?_
  refine lv_imul hx hb dL_law_47 ?_
  refine lv_iadd hx hb dL_law_48 ?_
  refine lv_topi (fun x _ => ?_)
  refine lv_istore (lv' := [(4, .int x), (3, .int (nI t)), (2, .ref o), (1, .ref (a 0)), (0, .ref sb)]) hx hb dL_law_49 hl (by decide) rfl (fun ls hl => ?_)
  refine lv_aload_n hx hb dL_law_51 rfl (lv_at hl 3 rfl) ?_
  refine lv_aload_n hx hb dL_law_52 rfl (lv_at hl 2 rfl) ?_
  refine lv_iload hx hb dL_law_53 (lv_at hl 0 rfl) ?_
  have sp := cu_sp.all (W0 := cu_cw C a (nI N) mn K P ++ cu_sm C o r g N mn K) (W1 := cu_cw C a (nI N) mn K P ++ cu_sm C o r g N mn K) rfl
  have hF := sp.F hD hS hA
  refine cu_callGI (va_runS (As := [.ref (a 0), .ref o, .int x]) (rest := []) ⟨hx, hb, hml, hown, hts⟩ (m_L_act l hlf D C a o r g N mn K P (101 * t) x I H1.size) (va_cwS 3 hts gL_law_L_act rfl rfl rfl (by decide +kernel) ⟨Nat.le_of_ble_eq_true rfl, Nat.le_of_ble_eq_true rfl⟩) (cu_preGS sp hG hP hD cu_bl_T (cu_at_T sp hD hT hS hA)) rfl rfl hl.1 rfl (lv_room (Nat.le_of_ble_eq_true rfl)) dL_law_55 ⟨by show cells + 0 + 4 ≤ 600104; omega, by show slots + 0 + 60 ≤ 7301314; omega⟩) hF hS (fun v u H2 locs2 hu hP2 hD2 _ _ hS => ?_)
  obtain ⟨rfl, I2⟩ := hu
  obtain ⟨N2, r2, g2, K2⟩ := u
  have I2 : k_in N2 mn K2 (101 * t) := I2
  have hP : va_P D vwCl (cu_cw C a (nI N2) mn K2 P ++ cu_sm C o r2 g2 N2 mn K2) H2 := hP2
  have hD : va_D A (cu_cw C a (nI N2) mn K2 P ++ cu_sm C o r2 g2 N2 mn K2) := hD2.weaken (fun _ _ _ h => hF _ h)
  have hN2 := I2.1
  refine lv_if_ne (tgt := 63) hx hb dL_law_58 (by decide) (fun _ => ?_) (fun z => absurd z (by decide))
  refine lv_iload_n hx hb dL_law_63 rfl (lv_at hl 1 rfl) ?_
  refine lv_iconst (v := 5) hx hb dL_law_64 (by decide) ?_
  refine lv_irem hx hb dL_law_65 (by decide) ?_
  refine lv_iconst (v := 4) hx hb dL_law_66 (by decide) ?_
  refine lv_icmp_ne (tgt := 111) hx hb dL_law_67 (by decide) (fun _ => ?_) (fun _ => ?_)
  · refine W.widen (k := cells + 20) (n := slots + 200) (by omega) (by omega) ?_
    exact kk x N2 r2 g2 mn K2 _ _ _ (k_in_T I2 (by omega)) hP hD hS (lv_sub hl [4, 3, 2, 1, 0] rfl)
  · refine lv_iconst (v := 1) hx hb dL_law_70 (by decide) ?_
    refine lv_iload hx hb dL_law_71 (lv_at hl 0 rfl) ?_
    refine lv_iconst (v := 4) hx hb dL_law_73 (by decide) ?_
    refine lv_ishr hx hb dL_law_74 ?_
    refine lv_topi (fun y _ => ?_)
    refine lv_bipush (v := 100) hx hb dL_law_75 (by decide) ?_
    have sp := cu_sp.nil (W0 := cu_cw C a (nI N2) mn K2 P ++ cu_sm C o r2 g2 N2 mn K2)
    refine cu_callI (va_runS (As := [.int y, .int 100]) (rest := [.int 1]) ⟨hx, hb, hml, hown, hts⟩ (m_L_below l D C y 100 (by decide) H2.size) (va_cwS 2 hts gL_law_L_below rfl rfl rfl (by decide +kernel) ⟨Nat.le_of_ble_eq_true rfl, Nat.le_of_ble_eq_true rfl⟩) (cu_preS sp hG hP hD) rfl rfl hl.1 rfl (lv_room (Nat.le_of_ble_eq_true rfl)) dL_law_77 ⟨by show cells + 0 + 4 + 0 ≤ 600104; omega, by show slots + 0 + 60 + 0 ≤ 7301314; omega⟩) sp hP hD hS hA (fun H locs hP hD hS => ?_)
    refine lv_iadd hx hb dL_law_80 ?_
    obtain ⟨go, g1, g100, ego⟩ := k_go100 y
    refine cu_top (x' := nI go) ego ?_
    refine lv_istore (lv' := [(5, .int (nI go)), (4, .int x), (3, .int (nI t)), (2, .ref o), (1, .ref (a 0)), (0, .ref sb)]) hx hb dL_law_81 hl (by decide) rfl (fun ls hl => ?_)
    refine lv_aload_n hx hb dL_law_83 rfl (lv_at hl 4 rfl) ?_
    refine lv_iload hx hb dL_law_84 (lv_at hl 0 rfl) ?_
    have sp := cu_sp.inL (Y := cu_sm C o r2 g2 N2 mn K2) (cu_sp.all (W0 := cu_cw C a (nI N2) mn K2 P) (W1 := cu_cw C a (nI N2) (mn + nI go) (k_at N2 mn K2 go) P) cu_cw_fst)
    refine cu_callXI (vx_runV (As := [.int (nI go)]) (rest := []) ⟨hx, hb, hml, hown, hts⟩ ((n_pass l hlf D C a N2 hN2 mn K2 P go g1 (by omega)) H.size) (cwV 1 hts gL_law_X1_pass rfl rfl rfl (by decide +kernel) ⟨Nat.le_of_ble_eq_true rfl, Nat.le_of_ble_eq_true rfl⟩) (cu_preXV (ci := 1) sp hG hP hD hT hS hA rfl rfl) rfl rfl hl.1 rfl (lv_room (Nat.le_of_ble_eq_true rfl)) dL_law_86 ⟨by show cells + 0 + 4 + 0 + 1 ≤ 600104; omega, by show slots + 0 + 60 + 0 + 6 ≤ 7301314; omega⟩) sp hP hD hS hA (fun E _ _ _ _ hoE _ _ _ _ _ _ => by cases hoE) (fun H locs _ hP hD hS => ?_)
    refine lv_pop hx hb dL_law_89 rfl ?_
    refine lv_iconst (v := 0) hx hb dL_law_90 (by decide) ?_
    refine lv_istore (lv' := [(6, .int (nI 0)), (5, .int (nI go)), (4, .int x), (3, .int (nI t)), (2, .ref o), (1, .ref (a 0)), (0, .ref sb)]) hx hb dL_law_91 hl (by decide) rfl (fun ls hl => ?_)
    refine W.widen (k := cells + 20) (n := slots + 200) (by omega) (by omega) ?_
    have loop : ∀ (j i : Nat), i + j = go → ∀ (H : Heap) (locs : List Loc) (ls : Array Slot), va_P D vwCl (cu_cw C a (nI N2) (mn + nI go) (k_at N2 mn K2 go) P ++ cu_sm C o r2 g2 N2 (mn + nI i) (k_at N2 mn K2 i)) H → va_D A (cu_cw C a (nI N2) (mn + nI go) (k_at N2 mn K2 go) P ++ cu_sm C o r2 g2 N2 (mn + nI i) (k_at N2 mn K2 i)) → va_S A H0 H locs → lv_has ls 26 [(6, .int (nI i)), (5, .int (nI go)), (4, .int x), (3, .int (nI t)), (2, .ref o), (1, .ref (a 0)), (0, .ref sb)] →
        W p l e room_1 s m args below meth c H locs (cells + 20) (slots + 200) Z (F0 m 93 ls []) := by
      intro j
      induction j with
      | zero =>
        intro i hj H locs ls hP hD hS hl
        have ei : i = go := by omega
        subst ei
        refine lv_iload hx hb dL_law_93 (lv_at hl 0 rfl) ?_
        refine lv_iload hx hb dL_law_95 (lv_at hl 1 rfl) ?_
        refine lv_icmp_ge (tgt := 111) hx hb dL_law_97 (by decide) (fun _ => ?_) (fun z => absurd (nI_le (a := i) (by omega) (by omega)) z)
        exact kk x N2 r2 g2 (mn + nI i) (k_at N2 mn K2 i) _ _ _ (k_in_T (k_in_at I2 (by omega) i (by omega)) (by omega)) hP hD hS (lv_sub hl [6, 5, 4, 3, 2] rfl)
      | succ j ih =>
        intro i hj H locs ls hP hD hS hl
        refine lv_iload hx hb dL_law_93 (lv_at hl 0 rfl) ?_
        refine lv_iload hx hb dL_law_95 (lv_at hl 1 rfl) ?_
        refine lv_icmp_ge (tgt := 111) hx hb dL_law_97 (by decide) (fun z => absurd z (nI_ge (b := go) (by omega) (by omega))) (fun _ => ?_)
        refine lv_aload_n hx hb dL_law_100 rfl (lv_at hl 4 rfl) ?_
        have sp := cu_sp.inR (X := cu_cw C a (nI N2) (mn + nI go) (k_at N2 mn K2 go) P) (cu_sp.all (W0 := cu_sm C o r2 g2 N2 (mn + nI i) (k_at N2 mn K2 i)) (W1 := cu_sm C o r2 g2 N2 (mn + nI i + 1) (k_upto (k_min (mn + nI i)) (k_at N2 mn K2 i) N2)) cu_sm_fst)
        refine cu_callI (va_runV (As := []) (rest := []) ⟨hx, hb, hml, hown, hts⟩ ((m_X3_pass l D C o r2 g2 N2 hN2 (mn + nI i) (k_at N2 mn K2 i) (k_in_oks (k_in_at I2 (by omega) i (by omega)))) H.size) (cwV 0 hts gL_law_X3_pass rfl rfl rfl (by decide +kernel) ⟨Nat.le_of_ble_eq_true rfl, Nat.le_of_ble_eq_true rfl⟩) (cu_preV (ci := 3) sp hG hP hD rfl rfl) rfl rfl hl.1 rfl (lv_room (Nat.le_of_ble_eq_true rfl)) dL_law_101 ⟨by show cells + 20 + 0 ≤ 600104; omega, by show slots + 200 + 0 ≤ 7301314; omega⟩) sp hP hD hS hA (fun H locs hP hD hS => ?_)
        refine lv_pop hx hb dL_law_104 rfl ?_
        refine lv_iinc (v := nI (i + 1)) (lv' := [(6, .int (nI (i + 1))), (5, .int (nI go)), (4, .int x), (3, .int (nI t)), (2, .ref o), (1, .ref (a 0)), (0, .ref sb)]) hx hb dL_law_105 hl (k := 0) rfl (nI_1 i) (by decide) rfl (fun ls hl => ?_)
        refine lv_goto (tgt := 93) hx hb dL_law_108 (by decide) ?_
        have em : mn + nI i + 1 = mn + nI (i + 1) := by rw [← nI_1 i]; grind
        rw [em] at hP hD
        exact ih (i + 1) (by omega) _ _ _ hP hD hS hl
    have e0 : mn + nI 0 = mn := k_m0 mn
    exact loop go 0 (by omega) _ _ _ (by rw [e0]; exact hP) (by rw [e0]; exact hD) hS hl
