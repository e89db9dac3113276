set_option maxHeartbeats 4000000 in
set_option maxRecDepth 100000 in
theorem m_X2_advise (l : Launch) (D : va_G) (C : Nat → ClassId) (o r q : Nat) (th : Int32) (N : Nat) (hN : N ≤ 10) (mn : Int32) (K : Nat → Nat → Int32) (v1 : Int32) (hok : ∀ c, c < N → k_ok (K c)) : cu_I l D C yX2_advise wsX2_advise { frames := 2, cells := 0, slots := 0, locals := 46 } [.ref o, .int v1] (cu_mw C o r q th (nI N) mn K) (cu_mw C o r q (k_c1 N v1) (nI N) mn K) (if k_c1 N v1 = 0 then k_true (K v1.toNatClampNeg) else 0) 0 0 := by
  refine cu_openI (cc := cX2_advise) (maxL := 7) (ty := .int) (own := RX2) (by decide) rfl rfl (Nat.le_of_ble_eq_true rfl) ?_
  intro p e s m args below meth c A Z H0 ls e0 hx hb hml hts hown hnm hG hP hD hS hA hl fin
  have hK := hG.1
  have hl : lv_has ls 7 [(0, .ref o), (1, .int v1)] := hl
  have hiX2 : ∀ w ∈ wsX20, w ∈ wsX2_advise := by decide +kernel
  refine lv_aload_n hx hb dX2_advise_0 rfl (lv_at hl 0 rfl) ?_
  refine lv_iconst (v := 0) hx hb dX2_advise_1 (by decide) ?_
  refine va_put (D := D) (ci := 2) (v := .int 0) (ty := .int) (C := RX2) (T := TX2) (N := 4) hx hb hts hiX2 tyX2 tyX2_ok nmX2 hown hK hP hD hS 0 rfl rfl 0 (by decide) (hts (.fieldLink RX2 16 "CuckooShopModel" "thrown" "I") (by decide +kernel)) (fun _ h9 => h9) rfl (by decide +kernel) rfl rfl (Nat.le_of_ble_eq_true rfl) dX2_advise_2 (fun H locs hP hD hS => ?_)
  have hP : va_P D vwCl (cu_mw C o r q 0 (nI N) mn K) H := hP
  have hD : va_D A (cu_mw C o r q 0 (nI N) mn K) := hD
  refine lv_aload_n hx hb dX2_advise_5 rfl (lv_at hl 0 rfl) ?_
  refine lv_iload_n hx hb dX2_advise_6 rfl (lv_at hl 1 rfl) ?_
  have sp := cu_sp.all (W0 := (cu_mw C o r q 0 (nI N) mn K)) (W1 := (cu_mw C o r q 0 (nI N) mn K)) rfl
  refine cu_callI (va_runV (As := [.int v1]) (rest := []) ⟨hx, hb, hml, hown, hts⟩ ((m_X2_isClock l D C o r q 0 N hN mn K v1) H.size) (cwV 1 hts gX2_advise_X2_isClock rfl rfl rfl (by decide +kernel) ⟨Nat.le_of_ble_eq_true rfl, Nat.le_of_ble_eq_true rfl⟩) (cu_preV (ci := 2) sp hG hP hD rfl rfl) rfl rfl hl.1 rfl (lv_room (Nat.le_of_ble_eq_true rfl)) dX2_advise_7 ⟨Nat.le_of_ble_eq_true rfl, Nat.le_of_ble_eq_true rfl⟩) sp hP hD hS hA (fun H locs hP hD hS => ?_)
  have hP : va_P D vwCl (cu_mw C o r q 0 (nI N) mn K) H := hP
  have hD : va_D A (cu_mw C o r q 0 (nI N) mn K) := hD
  refine lv_if_ne (tgt := 19) hx hb dX2_advise_10 (by decide) (fun c_10 => ?_) (fun c_10 => ?_)
  · obtain ⟨i, hiN, rfl⟩ := k_isC_in hN c_10
    have hi : i < 10 := by omega
    have hcl9 : (nI i).toNatClampNeg = i := nI_clamp (by omega)
    have hki := hok i hiN
    refine lv_iconst (v := -1) hx hb dX2_advise_19 (by decide) ?_
    refine lv_istore_n (lv' := [(2, .int (-1)), (0, .ref o), (1, .int (nI i))]) hx hb dX2_advise_20 rfl hl (by decide) rfl (fun ls hl => ?_)
    refine lv_iconst (v := 0) hx hb dX2_advise_21 (by decide) ?_
    refine lv_istore_n (lv' := [(3, .int 0), (2, .int (-1)), (0, .ref o), (1, .int (nI i))]) hx hb dX2_advise_22 rfl hl (by decide) rfl (fun ls hl => ?_)
    refine lv_bipush (v := 20) hx hb dX2_advise_23 (by decide) ?_
    refine lv_istore (lv' := [(4, .int 20), (3, .int 0), (2, .int (-1)), (0, .ref o), (1, .int (nI i))]) hx hb dX2_advise_25 hl (by decide) rfl (fun ls hl => ?_)
    have loop : ∀ (j : Nat), ∀ (a : Nat) (u : Int32 × Int32) (x2 x3 : Int32), a + j = 41 → 20 ≤ a → k_bestA (K i) j a u = k_bestA (K i) 21 20 (0, 1000000) → (a = 20 ∧ x2 = -1 ∧ u.2 = 1000000) ∨ (¬ x2 = -1 ∧ x2 = u.1 ∧ x3 = u.2) → ∀ (H : Heap) (locs : List Loc) (ls : Array Slot), va_P D vwCl (cu_mw C o r q 0 (nI N) mn K) H → va_D A (cu_mw C o r q 0 (nI N) mn K) → va_S A H0 H locs → lv_has ls 7 [(0, .ref o), (1, .int (nI i)), (2, .int x2), (3, .int x3), (4, .int (nI a))] → W p l e { frames := 2, cells := 0, slots := 0, locals := 46 } s m args below meth c H locs 0 0 Z (F0 m 27 ls []) := by
      intro j
      induction j with
      | zero =>
        intro a u x2 x3 hj ha hf hu H locs ls hP hD hS hl
        refine lv_iload hx hb dX2_advise_27 (lv_at hl 4 rfl) ?_
        refine lv_bipush (v := 40) hx hb dX2_advise_29 (by decide) ?_
        refine lv_icmp_gt (tgt := 101) hx hb dX2_advise_31 (by decide) (fun c_31 => ?_) (fun c_31 => absurd (nI_lt (a := 40) (by omega) (by omega)) c_31)
        refine lv_iload_n hx hb dX2_advise_101 rfl (lv_at hl 2 rfl) ?_
        exact fin _ _ _ _ _ rfl (by have e : k_c1 N (nI i) = 0 := (by simp (decide := true) only [k_c1, if_neg c_10, if_pos c_31]); rw [e, if_pos rfl, hcl9]; exact (hu.resolve_left (fun z => absurd z.1 (by omega))).2.1.trans (congrArg Prod.fst hf)) (by have e : k_c1 N (nI i) = 0 := (by simp (decide := true) only [k_c1, if_neg c_10, if_pos c_31]); rw [e]; exact hP) hS dX2_advise_102
      | succ j ih =>
        intro a u x2 x3 hj ha hf hu H locs ls hP hD hS hl
        refine lv_iload hx hb dX2_advise_27 (lv_at hl 4 rfl) ?_
        refine lv_bipush (v := 40) hx hb dX2_advise_29 (by decide) ?_
        refine lv_icmp_gt (tgt := 101) hx hb dX2_advise_31 (by decide) (fun c_31 => absurd c_31 (nI_nlt (a := 40) (by omega) (by decide))) (fun c_31 => ?_)
        refine lv_bipush (v := 20) hx hb dX2_advise_34 (by decide) ?_
        refine lv_istore (lv' := [(5, .int 20), (0, .ref o), (1, .int (nI i)), (2, .int x2), (3, .int x3), (4, .int (nI a))]) hx hb dX2_advise_36 hl (by decide) rfl (fun ls hl => ?_)
        have loop2 : ∀ (k : Nat), ∀ (b : Nat) (ww : Int32 × Int32) (x2 x3 : Int32), b + k = 41 → 20 ≤ b → k_bestB (K i) (nI a) k b ww = k_bestB (K i) (nI a) 21 20 u → ((a = 20 ∧ b = 20) ∧ x2 = -1 ∧ ww.2 = 1000000) ∨ (¬ x2 = -1 ∧ x2 = ww.1 ∧ x3 = ww.2) → ∀ (H : Heap) (locs : List Loc) (ls : Array Slot), va_P D vwCl (cu_mw C o r q 0 (nI N) mn K) H → va_D A (cu_mw C o r q 0 (nI N) mn K) → va_S A H0 H locs → lv_has ls 7 [(0, .ref o), (1, .int (nI i)), (2, .int x2), (3, .int x3), (4, .int (nI a)), (5, .int (nI b))] → W p l e { frames := 2, cells := 0, slots := 0, locals := 46 } s m args below meth c H locs 0 0 Z (F0 m 38 ls []) := by
          intro k
          induction k with
          | zero =>
            intro b ww x2 x3 hb1 hb2 hg hv H locs ls hP hD hS hl
            refine lv_iload hx hb dX2_advise_38 (lv_at hl 5 rfl) ?_
            refine lv_bipush (v := 40) hx hb dX2_advise_40 (by decide) ?_
            refine lv_icmp_gt (tgt := 95) hx hb dX2_advise_42 (by decide) (fun c_42 => ?_) (fun c_42 => absurd (nI_lt (a := 40) (by omega) (by omega)) c_42)
            refine lv_iinc (v := (nI (a + 1))) (lv' := [(4, .int (nI (a + 1))), (0, .ref o), (1, .int (nI i)), (2, .int x2), (3, .int x3), (5, .int (nI b))]) hx hb dX2_advise_95 hl (k := 4) rfl (nI_1 a) (by decide) rfl (fun ls hl => ?_)
            refine lv_goto (tgt := 27) hx hb dX2_advise_98 (by decide) ?_
            exact ih (a + 1) ww _ _ (by omega) (by omega) (by have e : ww = k_bestB (K i) (nI a) 21 20 u := hg; rw [← hf, e]; rfl) (Or.inr (hv.resolve_left (fun z => absurd z.1.2 (by omega)))) _ _ _ hP hD hS (lv_sub hl [1, 2, 3, 4, 0] rfl)
          | succ k ih =>
            intro b ww x2 x3 hb1 hb2 hg hv H locs ls hP hD hS hl
            refine lv_iload hx hb dX2_advise_38 (lv_at hl 5 rfl) ?_
            refine lv_bipush (v := 40) hx hb dX2_advise_40 (by decide) ?_
            refine lv_icmp_gt (tgt := 95) hx hb dX2_advise_42 (by decide) (fun c_42 => absurd c_42 (nI_nlt (a := 40) (by omega) (by decide))) (fun c_42 => ?_)
            refine lv_aload_n hx hb dX2_advise_45 rfl (lv_at hl 0 rfl) ?_
            refine lv_iload_n hx hb dX2_advise_46 rfl (lv_at hl 1 rfl) ?_
            refine lv_iload hx hb dX2_advise_47 (lv_at hl 4 rfl) ?_
            refine lv_iload hx hb dX2_advise_49 (lv_at hl 5 rfl) ?_
            have sp := cu_sp.all (W0 := (cu_mw C o r q 0 (nI N) mn K)) (W1 := (cu_mw C o r q 0 (nI N) mn K)) rfl
            refine cu_callI (va_runV (As := [.int (nI i), .int (nI a), .int (nI b)]) (rest := []) ⟨hx, hb, hml, hown, hts⟩ ((m_X2_advance l D C o r q 0 N hN mn K i hi (K i) rfl (nI a) (nI b) (k_nb0 (by omega) (by omega))) H.size) (cwV 3 hts gX2_advise_X2_advance rfl rfl rfl (by decide +kernel) ⟨Nat.le_of_ble_eq_true rfl, Nat.le_of_ble_eq_true rfl⟩) (cu_preV (ci := 2) sp hG hP hD rfl rfl) rfl rfl hl.1 rfl (lv_room (Nat.le_of_ble_eq_true rfl)) dX2_advise_51 ⟨Nat.le_of_ble_eq_true rfl, Nat.le_of_ble_eq_true rfl⟩) sp hP hD hS hA (fun H locs hP hD hS => ?_)
            have hP : va_P D vwCl (cu_mw C o r q 0 (nI N) mn K) H := hP
            have hD : va_D A (cu_mw C o r q 0 (nI N) mn K) := hD
            refine lv_sipush (v := 900) hx hb dX2_advise_54 (by decide) ?_
            refine lv_isub hx hb dX2_advise_57 ?_
            refine va_mabs hx hb (hml.trans hl.1.symm) hown (hts (.methodLink RX2 67 Lib.Math.abs.name) (by decide +kernel)) (hts (.static Lib.Math.abs.name) (by decide +kernel)) (hts (.initialized "java/lang/Math") (by decide +kernel)) (hts (.code Lib.Math.abs.name Lib.Math.abs.code 1 (some .int)) (by decide +kernel)) (Nat.le_of_ble_eq_true rfl) (Nat.le_of_ble_eq_true rfl) (Nat.zero_le _) (Nat.zero_le _) dX2_advise_58 ?_
            refine cu_top (x' := k_abs (k_advW (K i) (nI a) (nI b) - 900)) (rfl) ?_
            refine lv_istore (lv' := [(6, .int (k_abs (k_advW (K i) (nI a) (nI b) - 900))), (0, .ref o), (1, .int (nI i)), (2, .int x2), (3, .int x3), (4, .int (nI a)), (5, .int (nI b))]) hx hb dX2_advise_61 hl (by decide) rfl (fun ls hl => ?_)
            refine lv_iload_n hx hb dX2_advise_63 rfl (lv_at hl 3 rfl) ?_
            refine lv_iconst (v := -1) hx hb dX2_advise_64 (by decide) ?_
            refine lv_icmp_eq (tgt := 77) hx hb dX2_advise_65 (by decide) (fun c_65 => ?_) (fun c_65 => ?_)
            · refine lv_bipush (v := 100) hx hb dX2_advise_77 (by decide) ?_
              refine lv_iload hx hb dX2_advise_79 (lv_at hl 5 rfl) ?_
              refine lv_imul hx hb dX2_advise_81 ?_
              refine lv_iload hx hb dX2_advise_82 (lv_at hl 6 rfl) ?_
              refine lv_iadd hx hb dX2_advise_84 ?_
              refine lv_istore_n (lv' := [(2, .int ((100 * nI a) + nI b)), (6, .int (k_abs (k_advW (K i) (nI a) (nI b) - 900))), (0, .ref o), (1, .int (nI i)), (3, .int x3), (4, .int (nI a)), (5, .int (nI b))]) hx hb dX2_advise_85 rfl hl (by decide) rfl (fun ls hl => ?_)
              refine lv_iload hx hb dX2_advise_86 (lv_at hl 1 rfl) ?_
              refine lv_istore_n (lv' := [(3, .int (k_abs (k_advW (K i) (nI a) (nI b) - 900))), (2, .int ((100 * nI a) + nI b)), (6, .int (k_abs (k_advW (K i) (nI a) (nI b) - 900))), (0, .ref o), (1, .int (nI i)), (4, .int (nI a)), (5, .int (nI b))]) hx hb dX2_advise_88 rfl hl (by decide) rfl (fun ls hl => ?_)
              refine lv_iinc (v := (nI (b + 1))) (lv' := [(5, .int (nI (b + 1))), (3, .int (k_abs (k_advW (K i) (nI a) (nI b) - 900))), (2, .int ((100 * nI a) + nI b)), (6, .int (k_abs (k_advW (K i) (nI a) (nI b) - 900))), (0, .ref o), (1, .int (nI i)), (4, .int (nI a))]) hx hb dX2_advise_89 hl (k := 6) rfl (nI_1 b) (by decide) rfl (fun ls hl => ?_)
              refine lv_goto (tgt := 38) hx hb dX2_advise_92 (by decide) ?_
              exact ih (b + 1) (100 * nI a + nI b, k_abs (k_advW (K i) (nI a) (nI b) - 900)) _ _ (by omega) (by omega) (by rw [← hg]; show _ = k_bestB (K i) (nI a) k (b + 1) (k_best1 (K i) (nI a) (nI b) ww); congr 1; unfold k_best1; rw [((hv.resolve_right (fun z => z.1 c_65)).2.2), if_neg (k_by_bd hki ha (by omega) hb2 (by omega))]) (Or.inr ⟨k_ab_ne (by omega) (by omega), rfl, rfl⟩) _ _ _ hP hD hS (lv_sub hl [4, 5, 2, 1, 6, 0] rfl)
            · refine lv_iload hx hb dX2_advise_68 (lv_at hl 0 rfl) ?_
              refine lv_iload_n hx hb dX2_advise_70 rfl (lv_at hl 4 rfl) ?_
              refine lv_icmp_lt (tgt := 77) hx hb dX2_advise_71 (by decide) (fun c_71 => ?_) (fun c_71 => ?_)
              · refine lv_bipush (v := 100) hx hb dX2_advise_77 (by decide) ?_
                refine lv_iload hx hb dX2_advise_79 (lv_at hl 5 rfl) ?_
                refine lv_imul hx hb dX2_advise_81 ?_
                refine lv_iload hx hb dX2_advise_82 (lv_at hl 6 rfl) ?_
                refine lv_iadd hx hb dX2_advise_84 ?_
                refine lv_istore_n (lv' := [(2, .int ((100 * nI a) + nI b)), (6, .int (k_abs (k_advW (K i) (nI a) (nI b) - 900))), (0, .ref o), (1, .int (nI i)), (3, .int x3), (4, .int (nI a)), (5, .int (nI b))]) hx hb dX2_advise_85 rfl hl (by decide) rfl (fun ls hl => ?_)
                refine lv_iload hx hb dX2_advise_86 (lv_at hl 1 rfl) ?_
                refine lv_istore_n (lv' := [(3, .int (k_abs (k_advW (K i) (nI a) (nI b) - 900))), (2, .int ((100 * nI a) + nI b)), (6, .int (k_abs (k_advW (K i) (nI a) (nI b) - 900))), (0, .ref o), (1, .int (nI i)), (4, .int (nI a)), (5, .int (nI b))]) hx hb dX2_advise_88 rfl hl (by decide) rfl (fun ls hl => ?_)
                refine lv_iinc (v := (nI (b + 1))) (lv' := [(5, .int (nI (b + 1))), (3, .int (k_abs (k_advW (K i) (nI a) (nI b) - 900))), (2, .int ((100 * nI a) + nI b)), (6, .int (k_abs (k_advW (K i) (nI a) (nI b) - 900))), (0, .ref o), (1, .int (nI i)), (4, .int (nI a))]) hx hb dX2_advise_89 hl (k := 6) rfl (nI_1 b) (by decide) rfl (fun ls hl => ?_)
                refine lv_goto (tgt := 38) hx hb dX2_advise_92 (by decide) ?_
                exact ih (b + 1) (100 * nI a + nI b, k_abs (k_advW (K i) (nI a) (nI b) - 900)) _ _ (by omega) (by omega) (by have q := hv.resolve_left (fun z => c_65 z.2.1); rw [← hg]; show _ = k_bestB (K i) (nI a) k (b + 1) (k_best1 (K i) (nI a) (nI b) ww); congr 1; unfold k_best1; rw [← q.2.2, if_neg (Int32.not_le.mpr c_71)]) (Or.inr ⟨k_ab_ne (by omega) (by omega), rfl, rfl⟩) _ _ _ hP hD hS (lv_sub hl [4, 5, 2, 1, 6, 0] rfl)
              · refine lv_goto (tgt := 89) hx hb dX2_advise_74 (by decide) ?_
                refine lv_iinc (v := (nI (b + 1))) (lv' := [(5, .int (nI (b + 1))), (6, .int (k_abs (k_advW (K i) (nI a) (nI b) - 900))), (0, .ref o), (1, .int (nI i)), (2, .int x2), (3, .int x3), (4, .int (nI a))]) hx hb dX2_advise_89 hl (k := 6) rfl (nI_1 b) (by decide) rfl (fun ls hl => ?_)
                refine lv_goto (tgt := 38) hx hb dX2_advise_92 (by decide) ?_
                exact ih (b + 1) ww _ _ (by omega) (by omega) (by have q := hv.resolve_left (fun z => c_65 z.2.1); rw [← hg]; show _ = k_bestB (K i) (nI a) k (b + 1) (k_best1 (K i) (nI a) (nI b) ww); congr 1; unfold k_best1; rw [← q.2.2]; exact (if_pos (Int32.not_lt.mp c_71)).symm) (Or.inr (hv.resolve_left (fun z => c_65 z.2.1))) _ _ _ hP hD hS (lv_sub hl [2, 3, 4, 5, 6, 0] rfl)
        exact loop2 21 20 u _ _ rfl (by decide) rfl (hu.imp (fun z => ⟨⟨z.1, rfl⟩, z.2⟩) id) _ _ _ hP hD hS (lv_sub hl [1, 2, 3, 4, 5, 0] rfl)
    exact loop 21 20 (0, 1000000) _ _ rfl (by decide) rfl (Or.inl ⟨rfl, rfl, rfl⟩) _ _ _ hP hD hS (lv_sub hl [3, 4, 2, 1, 0] rfl)
  · refine lv_aload_n hx hb dX2_advise_13 rfl (lv_at hl 0 rfl) ?_
    refine lv_iconst (v := 1) hx hb dX2_advise_14 (by decide) ?_
    have sp := cu_sp.all (W0 := (cu_mw C o r q 0 (nI N) mn K)) (W1 := (cu_mw C o r q 1 (nI N) mn K)) cu_mw_fst
    refine cu_callI (va_runV (As := [.int 1]) (rest := []) ⟨hx, hb, hml, hown, hts⟩ ((m_X2_fail l D C o r q 0 N hN mn K 1) H.size) (cwV 1 hts gX2_advise_X2_fail rfl rfl rfl (by decide +kernel) ⟨Nat.le_of_ble_eq_true rfl, Nat.le_of_ble_eq_true rfl⟩) (cu_preV (ci := 2) sp hG hP hD rfl rfl) rfl rfl hl.1 rfl (lv_room (Nat.le_of_ble_eq_true rfl)) dX2_advise_15 ⟨Nat.le_of_ble_eq_true rfl, Nat.le_of_ble_eq_true rfl⟩) sp hP hD hS hA (fun H locs hP hD hS => ?_)
    have hP : va_P D vwCl (cu_mw C o r q 1 (nI N) mn K) H := hP
    have hD : va_D A (cu_mw C o r q 1 (nI N) mn K) := hD
    exact fin _ _ _ _ _ rfl (by have e : k_c1 N v1 = 1 := (by simp (decide := true) only [k_c1, if_pos c_10]); rw [e, if_neg (by decide)]) (by have e : k_c1 N v1 = 1 := (by simp (decide := true) only [k_c1, if_pos c_10]); rw [e]; exact hP) hS dX2_advise_18

set_option maxHeartbeats 4000000 in
set_option maxRecDepth 100000 in
theorem m_X2_digest (l : Launch) (D : va_G) (C : Nat → ClassId) (o r q : Nat) (th : Int32) (N : Nat) (hN : N ≤ 10) (mn : Int32) (K : Nat → Nat → Int32) (hok : ∀ c, c < N → k_ok (K c)) (hm : 0 ≤ mn.toInt) : cu_L l D C yX2_digest wsX2_digest { frames := 4, cells := 0, slots := 0, locals := 89 } [.ref o] (cu_mw C o r q th (nI N) mn K) (cu_mw C o r q 0 (nI N) mn K) (k_dig N K mn) 0 0 := by
  refine cu_openL (cc := cX2_digest) (maxL := 5) (own := RX2) (by decide) rfl rfl (Nat.le_of_ble_eq_true rfl) ?_
  intro p e s m args below meth c A Z H0 ls e0 hx hb hml hts hown hnm hG hP hD hS hA hl fin
  have hK := hG.1
  have hl : lv_has ls 5 [(0, .ref o)] := hl
  have hiX2 : ∀ w ∈ wsX20, w ∈ wsX2_digest := by decide +kernel
  refine lv_aload_n hx hb dX2_digest_0 rfl (lv_at hl 0 rfl) ?_
  refine lv_iconst (v := 0) hx hb dX2_digest_1 (by decide) ?_
  refine va_put (D := D) (ci := 2) (v := .int 0) (ty := .int) (C := RX2) (T := TX2) (N := 4) hx hb hts hiX2 tyX2 tyX2_ok nmX2 hown hK hP hD hS 0 rfl rfl 0 (by decide) (hts (.fieldLink RX2 16 "CuckooShopModel" "thrown" "I") (by decide +kernel)) (fun _ h9 => h9) rfl (by decide +kernel) rfl rfl (Nat.le_of_ble_eq_true rfl) dX2_digest_2 (fun H locs hP hD hS => ?_)
  have hP : va_P D vwCl (cu_mw C o r q 0 (nI N) mn K) H := hP
  have hD : va_D A (cu_mw C o r q 0 (nI N) mn K) := hD
  refine lv_ldc2 (v := 1009) hx hb hown (hts (.constantLong RX2 107 (1009)) (by decide +kernel)) dX2_digest_5 ?_
  refine lv_lstore_n (lv' := [(1, .long 1009), (0, .ref o)]) hx hb dX2_digest_8 rfl hl (by decide) rfl (fun ls hl => ?_)
  refine lv_iconst (v := 0) hx hb dX2_digest_9 (by decide) ?_
  refine lv_istore_n (lv' := [(3, .int 0), (1, .long 1009), (0, .ref o)]) hx hb dX2_digest_10 rfl hl (by decide) rfl (fun ls hl => ?_)
  have loop : ∀ (j : Nat), ∀ (z : Nat), z + j = 8 → ∀ (H : Heap) (locs : List Loc) (ls : Array Slot), va_P D vwCl (cu_mw C o r q 0 (nI N) mn K) H → va_D A (cu_mw C o r q 0 (nI N) mn K) → va_S A H0 H locs → lv_has ls 5 [(0, .ref o), (3, .int (nI z)), (1, .long (k_digT N K mn z))] → W p l e { frames := 4, cells := 0, slots := 0, locals := 89 } s m args below meth c H locs 0 0 Z (F0 m 11 ls []) := by
    intro j
    induction j with
    | zero =>
      intro z hj H locs ls hP hD hS hl
      obtain rfl : z = 8 := by omega
      refine lv_iload_n hx hb dX2_digest_11 rfl (lv_at hl 1 rfl) ?_
      refine lv_bipush (v := 8) hx hb dX2_digest_12 (by decide) ?_
      refine lv_icmp_ge (tgt := 36) hx hb dX2_digest_14 (by decide) (fun c_14 => ?_) (fun c_14 => absurd (nI_le (a := 8) (by omega) (by omega)) c_14)
      refine lv_iconst (v := 0) hx hb dX2_digest_36 (by decide) ?_
      refine lv_istore_n (lv' := [(3, .int 0), (0, .ref o), (1, .long (k_digT N K mn 8))]) hx hb dX2_digest_37 rfl hl (by decide) rfl (fun ls hl => ?_)
      have loop2 : ∀ (k : Nat), ∀ (i : Nat), i + k = N → ∀ (H : Heap) (locs : List Loc) (ls : Array Slot), va_P D vwCl (cu_mw C o r q 0 (nI N) mn K) H → va_D A (cu_mw C o r q 0 (nI N) mn K) → va_S A H0 H locs → lv_has ls 5 [(0, .ref o), (3, .int (nI i)), (1, .long (k_digC K (k_digT N K mn 8) i))] → W p l e { frames := 4, cells := 0, slots := 0, locals := 89 } s m args below meth c H locs 0 0 Z (F0 m 38 ls []) := by
        intro k
        induction k with
        | zero =>
          intro i hj2 H locs ls hP hD hS hl
          have eN : i = N := by omega
          refine lv_iload_n hx hb dX2_digest_38 rfl (lv_at hl 1 rfl) ?_
          refine lv_aload_n hx hb dX2_digest_39 rfl (lv_at hl 0 rfl) ?_
          refine va_get (D := D) (ci := 2) (v := .int (nI N)) (C := RX2) (T := TX2) (N := 4) hx hb hts hiX2 hown hK hP 0 rfl rfl 1 (by decide) (hts (.fieldLink RX2 20 "CuckooShopModel" "clocks" "I") (by decide +kernel)) (fun _ h9 => h9) rfl dX2_digest_40 ?_
          refine lv_icmp_ge (tgt := 115) hx hb dX2_digest_43 (by decide) (fun c_43 => ?_) (fun c_43 => absurd (nI_le (a := N) (by omega) (by omega)) c_43)
          refine lv_lload_n hx hb dX2_digest_115 rfl (lv_at hl 2 rfl) ?_
          exact fin _ _ _ _ _ (by rw [eN]; rfl) hP hS dX2_digest_116
        | succ k ih =>
          intro i hj2 H locs ls hP hD hS hl
          have hi : i < 10 := by omega
          refine lv_iload_n hx hb dX2_digest_38 rfl (lv_at hl 1 rfl) ?_
          refine lv_aload_n hx hb dX2_digest_39 rfl (lv_at hl 0 rfl) ?_
          refine va_get (D := D) (ci := 2) (v := .int (nI N)) (C := RX2) (T := TX2) (N := 4) hx hb hts hiX2 hown hK hP 0 rfl rfl 1 (by decide) (hts (.fieldLink RX2 20 "CuckooShopModel" "clocks" "I") (by decide +kernel)) (fun _ h9 => h9) rfl dX2_digest_40 ?_
          refine lv_icmp_ge (tgt := 115) hx hb dX2_digest_43 (by decide) (fun c_43 => absurd c_43 (nI_ge (b := N) (by omega) (by omega))) (fun c_43 => ?_)
          refine lv_bipush (v := 9) hx hb dX2_digest_46 (by decide) ?_
          refine lv_istore (lv' := [(4, .int 9), (0, .ref o), (3, .int (nI i)), (1, .long (k_digC K (k_digT N K mn 8) i))]) hx hb dX2_digest_48 hl (by decide) rfl (fun ls hl => ?_)
          have hki := hok i (by omega)
          have loop3 : ∀ (k3 : Nat), ∀ (f : Nat) (dd : Int64), f + k3 = 14 → k_mixF (K i) k3 f dd = k_mixF (K i) 5 9 (k_digC K (k_digT N K mn 8) i) → ∀ (H : Heap) (locs : List Loc) (ls : Array Slot), va_P D vwCl (cu_mw C o r q 0 (nI N) mn K) H → va_D A (cu_mw C o r q 0 (nI N) mn K) → va_S A H0 H locs → lv_has ls 5 [(0, .ref o), (3, .int (nI i)), (1, .long dd), (4, .int (nI f))] → W p l e { frames := 4, cells := 0, slots := 0, locals := 89 } s m args below meth c H locs 0 0 Z (F0 m 50 ls []) := by
            intro k3
            induction k3 with
            | zero =>
              intro f dd hf1 hf2 H locs ls hP hD hS hl
              have edd : dd = k_mixF (K i) 5 9 (k_digC K (k_digT N K mn 8) i) := hf2
              refine lv_iload hx hb dX2_digest_50 (lv_at hl 3 rfl) ?_
              refine lv_bipush (v := 13) hx hb dX2_digest_52 (by decide) ?_
              refine lv_icmp_gt (tgt := 78) hx hb dX2_digest_54 (by decide) (fun c_54 => ?_) (fun c_54 => absurd (nI_lt (a := 13) (by omega) (by omega)) c_54)
              refine lv_iconst (v := 0) hx hb dX2_digest_78 (by decide) ?_
              refine lv_istore (lv' := [(4, .int 0), (0, .ref o), (3, .int (nI i)), (1, .long dd)]) hx hb dX2_digest_79 hl (by decide) rfl (fun ls hl => ?_)
              have loop4 : ∀ (k4 : Nat), ∀ (g : Nat) (dd : Int64), g + k4 = 11 → k_mixR (K i) k4 g dd = k_mixR (K i) 11 0 (k_mixF (K i) 5 9 (k_digC K (k_digT N K mn 8) i)) → ∀ (H : Heap) (locs : List Loc) (ls : Array Slot), va_P D vwCl (cu_mw C o r q 0 (nI N) mn K) H → va_D A (cu_mw C o r q 0 (nI N) mn K) → va_S A H0 H locs → lv_has ls 5 [(0, .ref o), (3, .int (nI i)), (1, .long dd), (4, .int (nI g))] → W p l e { frames := 4, cells := 0, slots := 0, locals := 89 } s m args below meth c H locs 0 0 Z (F0 m 81 ls []) := by
                intro k4
                induction k4 with
                | zero =>
                  intro g dd hg1 hg2 H locs ls hP hD hS hl
                  have edd : dd = k_digC K (k_digT N K mn 8) (i + 1) := hg2
                  refine lv_iload hx hb dX2_digest_81 (lv_at hl 3 rfl) ?_
                  refine lv_bipush (v := 11) hx hb dX2_digest_83 (by decide) ?_
                  refine lv_icmp_ge (tgt := 109) hx hb dX2_digest_85 (by decide) (fun c_85 => ?_) (fun c_85 => absurd (nI_le (a := 11) (by omega) (by omega)) c_85)
                  subst edd
                  refine lv_iinc (v := (nI (i + 1))) (lv' := [(3, .int (nI (i + 1))), (0, .ref o), (1, .long (k_digC K (k_digT N K mn 8) (i + 1))), (4, .int (nI g))]) hx hb dX2_digest_109 hl (k := 1) rfl (nI_1 i) (by decide) rfl (fun ls hl => ?_)
                  refine lv_goto (tgt := 38) hx hb dX2_digest_112 (by decide) ?_
                  exact ih (i + 1) (by omega) _ _ _ hP hD hS (lv_sub hl [1, 0, 2] rfl)
                | succ k4 ih =>
                  intro g dd hg1 hg2 H locs ls hP hD hS hl
                  have hg : g < 11 := by omega
                  refine lv_iload hx hb dX2_digest_81 (lv_at hl 3 rfl) ?_
                  refine lv_bipush (v := 11) hx hb dX2_digest_83 (by decide) ?_
                  refine lv_icmp_ge (tgt := 109) hx hb dX2_digest_85 (by decide) (fun c_85 => absurd c_85 (nI_ge (b := 11) (by omega) (by decide))) (fun c_85 => ?_)
                  refine lv_lload_n hx hb dX2_digest_88 rfl (lv_at hl 2 rfl) ?_
                  refine lv_ldc2 (v := 31) hx hb hown (hts (.constantLong RX2 109 (31)) (by decide +kernel)) dX2_digest_89 ?_
                  refine lv_lmul hx hb dX2_digest_92 ?_
                  refine lv_aload_n hx hb dX2_digest_93 rfl (lv_at hl 0 rfl) ?_
                  refine lv_iload_n hx hb dX2_digest_94 rfl (lv_at hl 1 rfl) ?_
                  refine lv_iload hx hb dX2_digest_95 (lv_at hl 3 rfl) ?_
                  have sp := cu_sp.all (W0 := (cu_mw C o r q 0 (nI N) mn K)) (W1 := (cu_mw C o r q 0 (nI N) mn K)) rfl
                  refine cu_callI (va_runV (As := [.int (nI i), .int (nI g)]) (rest := [.long (dd * 31)]) ⟨hx, hb, hml, hown, hts⟩ ((m_X2_clockTold l D C o r q 0 N hN mn K i hi (K i) rfl hki g (by omega) (nI g) rfl) H.size) (cwV 2 hts gX2_digest_X2_clockTold rfl rfl rfl (by decide +kernel) ⟨Nat.le_of_ble_eq_true rfl, Nat.le_of_ble_eq_true rfl⟩) (cu_preV (ci := 2) sp hG hP hD rfl rfl) rfl rfl hl.1 rfl (lv_room (Nat.le_of_ble_eq_true rfl)) dX2_digest_97 ⟨Nat.le_of_ble_eq_true rfl, Nat.le_of_ble_eq_true rfl⟩) sp hP hD hS hA (fun H locs hP hD hS => ?_)
                  have hP : va_P D vwCl (cu_mw C o r q 0 (nI N) mn K) H := hP
                  have hD : va_D A (cu_mw C o r q 0 (nI N) mn K) := hD
                  refine lv_i2l (v := (k_read (K i) (nI g)).toInt64) hx hb dX2_digest_100 rfl ?_
                  refine lv_ladd hx hb dX2_digest_101 ?_
                  refine lv_lstore_n (lv' := [(1, .long ((dd * 31) + (k_read (K i) (nI g)).toInt64)), (0, .ref o), (3, .int (nI i)), (4, .int (nI g))]) hx hb dX2_digest_102 rfl hl (by decide) rfl (fun ls hl => ?_)
                  refine lv_iinc (v := (nI (g + 1))) (lv' := [(4, .int (nI (g + 1))), (1, .long ((dd * 31) + (k_read (K i) (nI g)).toInt64)), (0, .ref o), (3, .int (nI i))]) hx hb dX2_digest_103 hl (k := 3) rfl (nI_1 g) (by decide) rfl (fun ls hl => ?_)
                  refine lv_goto (tgt := 81) hx hb dX2_digest_106 (by decide) ?_
                  exact ih (g + 1) _ (by omega) (by rw [← hg2]; rfl) _ _ _ hP hD hS (lv_sub hl [2, 3, 1, 0] rfl)
              exact loop4 11 0 _ rfl (by rw [edd]) _ _ _ hP hD hS (lv_sub hl [1, 2, 3, 0] rfl)
            | succ k3 ih =>
              intro f dd hf1 hf2 H locs ls hP hD hS hl
              have hf : f < 14 := by omega
              refine lv_iload hx hb dX2_digest_50 (lv_at hl 3 rfl) ?_
              refine lv_bipush (v := 13) hx hb dX2_digest_52 (by decide) ?_
              refine lv_icmp_gt (tgt := 78) hx hb dX2_digest_54 (by decide) (fun c_54 => absurd c_54 (nI_nlt (a := 13) (by omega) (by decide))) (fun c_54 => ?_)
              refine lv_lload_n hx hb dX2_digest_57 rfl (lv_at hl 2 rfl) ?_
              refine lv_ldc2 (v := 31) hx hb hown (hts (.constantLong RX2 109 (31)) (by decide +kernel)) dX2_digest_58 ?_
              refine lv_lmul hx hb dX2_digest_61 ?_
              refine lv_aload_n hx hb dX2_digest_62 rfl (lv_at hl 0 rfl) ?_
              refine lv_iload_n hx hb dX2_digest_63 rfl (lv_at hl 1 rfl) ?_
              refine lv_iload hx hb dX2_digest_64 (lv_at hl 3 rfl) ?_
              have sp := cu_sp.all (W0 := (cu_mw C o r q 0 (nI N) mn K)) (W1 := (cu_mw C o r q 0 (nI N) mn K)) rfl
              refine cu_callI (va_runV (As := [.int (nI i), .int (nI f)]) (rest := [.long (dd * 31)]) ⟨hx, hb, hml, hown, hts⟩ ((m_X2_sh l D C o r q 0 N hN mn K i f hi (by omega) (K i f) rfl) H.size) (cwV 2 hts gX2_digest_X2_sh rfl rfl rfl (by decide +kernel) ⟨Nat.le_of_ble_eq_true rfl, Nat.le_of_ble_eq_true rfl⟩) (cu_preV (ci := 2) sp hG hP hD rfl rfl) rfl rfl hl.1 rfl (lv_room (Nat.le_of_ble_eq_true rfl)) dX2_digest_66 ⟨Nat.le_of_ble_eq_true rfl, Nat.le_of_ble_eq_true rfl⟩) sp hP hD hS hA (fun H locs hP hD hS => ?_)
              have hP : va_P D vwCl (cu_mw C o r q 0 (nI N) mn K) H := hP
              have hD : va_D A (cu_mw C o r q 0 (nI N) mn K) := hD
              refine lv_i2l (v := (K i f).toInt64) hx hb dX2_digest_69 rfl ?_
              refine lv_ladd hx hb dX2_digest_70 ?_
              refine lv_lstore_n (lv' := [(1, .long ((dd * 31) + (K i f).toInt64)), (0, .ref o), (3, .int (nI i)), (4, .int (nI f))]) hx hb dX2_digest_71 rfl hl (by decide) rfl (fun ls hl => ?_)
              refine lv_iinc (v := (nI (f + 1))) (lv' := [(4, .int (nI (f + 1))), (1, .long ((dd * 31) + (K i f).toInt64)), (0, .ref o), (3, .int (nI i))]) hx hb dX2_digest_72 hl (k := 3) rfl (nI_1 f) (by decide) rfl (fun ls hl => ?_)
              refine lv_goto (tgt := 50) hx hb dX2_digest_75 (by decide) ?_
              exact ih (f + 1) _ (by omega) (by rw [← hf2]; rfl) _ _ _ hP hD hS (lv_sub hl [2, 3, 1, 0] rfl)
          exact loop3 5 9 _ rfl rfl _ _ _ hP hD hS (lv_sub hl [1, 2, 3, 0] rfl)
      exact loop2 N 0 (by omega) _ _ _ hP hD hS (lv_sub hl [1, 0, 2] rfl)
    | succ j ih =>
      intro z hj H locs ls hP hD hS hl
      have hz : z < 8 := by omega
      refine lv_iload_n hx hb dX2_digest_11 rfl (lv_at hl 1 rfl) ?_
      refine lv_bipush (v := 8) hx hb dX2_digest_12 (by decide) ?_
      refine lv_icmp_ge (tgt := 36) hx hb dX2_digest_14 (by decide) (fun c_14 => absurd c_14 (nI_ge (b := 8) (by omega) (by decide))) (fun c_14 => ?_)
      refine lv_lload_n hx hb dX2_digest_17 rfl (lv_at hl 2 rfl) ?_
      refine lv_ldc2 (v := 31) hx hb hown (hts (.constantLong RX2 109 (31)) (by decide +kernel)) dX2_digest_18 ?_
      refine lv_lmul hx hb dX2_digest_21 ?_
      refine lv_aload_n hx hb dX2_digest_22 rfl (lv_at hl 0 rfl) ?_
      refine lv_iload_n hx hb dX2_digest_23 rfl (lv_at hl 1 rfl) ?_
      have sp := cu_sp.all (W0 := (cu_mw C o r q 0 (nI N) mn K)) (W1 := (cu_mw C o r q 0 (nI N) mn K)) rfl
      refine cu_callI (va_runV (As := [.int (nI z)]) (rest := [.long ((k_digT N K mn z) * 31)]) ⟨hx, hb, hml, hown, hts⟩ ((m_X2_counted l D C o r q 0 N hN mn K hok hm z (by omega) (nI z) rfl) H.size) (cwV 1 hts gX2_digest_X2_counted rfl rfl rfl (by decide +kernel) ⟨Nat.le_of_ble_eq_true rfl, Nat.le_of_ble_eq_true rfl⟩) (cu_preV (ci := 2) sp hG hP hD rfl rfl) rfl rfl hl.1 rfl (lv_room (Nat.le_of_ble_eq_true rfl)) dX2_digest_24 ⟨Nat.le_of_ble_eq_true rfl, Nat.le_of_ble_eq_true rfl⟩) sp hP hD hS hA (fun H locs hP hD hS => ?_)
      have hP : va_P D vwCl (cu_mw C o r q 0 (nI N) mn K) H := hP
      have hD : va_D A (cu_mw C o r q 0 (nI N) mn K) := hD
      refine lv_i2l (v := (k_tally N K mn (nI z)).toInt64) hx hb dX2_digest_27 rfl ?_
      refine lv_ladd hx hb dX2_digest_28 ?_
      refine lv_lstore_n (lv' := [(1, .long (((k_digT N K mn z) * 31) + (k_tally N K mn (nI z)).toInt64)), (0, .ref o), (3, .int (nI z))]) hx hb dX2_digest_29 rfl hl (by decide) rfl (fun ls hl => ?_)
      refine lv_iinc (v := (nI (z + 1))) (lv' := [(3, .int (nI (z + 1))), (1, .long (((k_digT N K mn z) * 31) + (k_tally N K mn (nI z)).toInt64)), (0, .ref o)]) hx hb dX2_digest_30 hl (k := 2) rfl (nI_1 z) (by decide) rfl (fun ls hl => ?_)
      refine lv_goto (tgt := 11) hx hb dX2_digest_33 (by decide) ?_
      exact ih (z + 1) (by omega) _ _ _ hP hD hS (lv_sub hl [2, 0, 1] rfl)
  exact loop 8 0 (by omega) _ _ _ hP hD hS (lv_sub hl [2, 0, 1] rfl)
