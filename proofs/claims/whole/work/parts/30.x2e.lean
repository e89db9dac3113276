theorem cu_mwx_fst {C : Nat → ClassId} {o r q : Nat} {th n m th1 n1 m1 : Int32} {K K1 : Nat → Nat → Int32} {X : va_W} : (cu_mw C o r q th1 n1 m1 K1 ++ X).map Prod.fst = (cu_mw C o r q th n m K ++ X).map Prod.fst := by
  rw [List.map_append, List.map_append, cu_mw_fst (th := th) (n := n) (m := m) (K := K)]
theorem k_at_at1 {N : Nat} {m : Int32} {K : Nat → Nat → Int32} {i : Nat} (hi : i < N) : ∀ b : Nat, k_at N m K b i = k_at1 m (K i) b
  | 0 => rfl
  | b + 1 => by
    show k_upto (k_min (m + nI b)) (k_at N m K b) N i = k_min (m + nI b) (k_at1 m (K i) b)
    unfold k_upto
    rw [if_pos hi, k_at_at1 hi b]
theorem k_latest_at {N : Nat} {m : Int32} {K : Nat → Nat → Int32} {b : Nat} : k_sum (fun c => k_at N m K (b + 1) c 8) N = k_latest N m K b := by
  refine k_sum_c N (fun c hc => ?_)
  show k_upto (k_min (m + nI b)) (k_at N m K b) N c 8 = _
  unfold k_upto
  rw [if_pos hc]
theorem k_nx_ne {b : Nat} (hb : b < 2147483648) : ¬ nI b = -1 := by
  intro z
  have := congrArg Int32.toInt z
  rw [nI_toInt hb] at this
  have e : (-1 : Int32).toInt = -1 := by decide
  omega
def k_foreM (N : Nat) (m : Int32) (K : Nat → Nat → Int32) (t : Nat) (w : Int32) : Int32 :=
  if w = 0 then k_sum (fun c => k_at N m K t c 6) N - k_sum (fun c => K c 6) N else if w = 1 then k_sum (fun c => k_at N m K t c 7) N - k_sum (fun c => K c 7) N else if w = 2 then k_tally N (k_at N m K t) (m + nI t) 3 else k_tally N (k_at N m K t) (m + nI t) 7
theorem k_mt {mn : Int32} {t : Nat} (hm : 0 ≤ mn.toInt) (hm2 : mn.toInt ≤ 1000000) (ht : t ≤ 720) : 0 ≤ (mn + nI t).toInt := by
  have e := nI_toInt (n := t) (by omega)
  rw [i_add (by rw [e]; omega) (by rw [e]; omega), e]
  omega
theorem k_by_bd {K : Nat → Int32} {a b : Nat} (h : k_ok K) (ha : 20 ≤ a) (ha2 : a ≤ 40) (hb : 20 ≤ b) (hb2 : b ≤ 40) : ¬ (1000000 : Int32) ≤ k_abs (k_advW K (nI a) (nI b) - 900) := by
  obtain ⟨h1, h2⟩ := k_advW_bd h (a := nI a) (b := nI b) (by rw [nI_toInt (by omega)]; omega) (by rw [nI_toInt (by omega)]; omega)
  have e900 : (900 : Int32).toInt = 900 := by decide
  have e0 : (0 : Int32).toInt = 0 := by decide
  have eM : (1000000 : Int32).toInt = 1000000 := by decide
  have e1 : (k_advW K (nI a) (nI b) - 900).toInt = (k_advW K (nI a) (nI b)).toInt - 900 := by rw [i_sub (by rw [e900]; omega) (by rw [e900]; omega), e900]
  unfold k_abs
  split
  · rw [i_le, eM, e1]; omega
  · rw [i_le, eM, i_sub (by rw [e0, e1]; omega) (by rw [e0, e1]; omega), e0, e1]; omega
theorem k_ab_ne {a b : Nat} (ha : a ≤ 40) (hb : b ≤ 40) : ¬ (100 : Int32) * nI a + nI b = -1 := by
  have e : (100 : Int32) * nI a + nI b = nI (100 * a + b) := by
    rw [show (100 : Int32) = nI 100 from rfl, pk_mul, nI_add]
  rw [e]
  exact k_nx_ne (by omega)
theorem k_nb0 {b : Nat} (h1 : 1 ≤ b) (h2 : b ≤ 40) : ¬ nI b = 0 := by
  intro z
  have := congrArg Int32.toInt z
  rw [nI_toInt (by omega)] at this
  have e : (0 : Int32).toInt = 0 := by decide
  omega
def k_mixF (K : Nat → Int32) : Nat → Nat → Int64 → Int64
  | 0, _, d => d
  | j + 1, w, d => k_mixF K j (w + 1) (d * 31 + (K w).toInt64)
theorem k_mix_F (K : Nat → Int32) (d : Int64) : k_mix K d = k_mixR K 11 0 (k_mixF K 5 9 d) := rfl

set_option maxHeartbeats 4000000 in
set_option maxRecDepth 100000 in
theorem m_X2_next (l : Launch) (D : va_G) (C : Nat → ClassId) (o r q : Nat) (th : Int32) (N : Nat) (hN : N ≤ 10) (mn : Int32) (K : Nat → Nat → Int32) (v1 : Int32) (hok : ∀ c, c < N → k_ok (K c)) : cu_I l D C yX2_next wsX2_next { frames := 4, cells := 3, slots := 143, locals := 90 } [.ref o, .int v1] (cu_mw C o r q th (nI N) mn K) (cu_mw C o r q (k_c1 N v1) (nI N) mn K) (if k_c1 N v1 = 0 then k_next mn (K v1.toNatClampNeg) else 0) 3 143 := by
  refine cu_openI (cc := cX2_next) (maxL := 5) (ty := .int) (own := RX2) (by decide) rfl rfl (Nat.le_of_ble_eq_true rfl) ?_
  intro p e s m args below meth c A Z H0 ls e0 hx hb hml hts hown hnm hG hP hD hS hA hl fin
  have hK := hG.1
  have hl : lv_has ls 5 [(0, .ref o), (1, .int v1)] := hl
  have hiX2 : ∀ w ∈ wsX20, w ∈ wsX2_next := by decide +kernel
  refine lv_aload_n hx hb dX2_next_0 rfl (lv_at hl 0 rfl) ?_
  refine lv_iconst (v := 0) hx hb dX2_next_1 (by decide) ?_
  refine va_put (D := D) (ci := 2) (v := .int 0) (ty := .int) (C := RX2) (T := TX2) (N := 4) hx hb hts hiX2 tyX2 tyX2_ok nmX2 hown hK hP hD hS 0 rfl rfl 0 (by decide) (hts (.fieldLink RX2 16 "CuckooShopModel" "thrown" "I") (by decide +kernel)) (fun _ h9 => h9) rfl (by decide +kernel) rfl rfl (Nat.le_of_ble_eq_true rfl) dX2_next_2 (fun H locs hP hD hS => ?_)
  have hP : va_P D vwCl (cu_mw C o r q 0 (nI N) mn K) H := hP
  have hD : va_D A (cu_mw C o r q 0 (nI N) mn K) := hD
  refine lv_aload_n hx hb dX2_next_5 rfl (lv_at hl 0 rfl) ?_
  refine lv_iload_n hx hb dX2_next_6 rfl (lv_at hl 1 rfl) ?_
  have sp := cu_sp.all (W0 := (cu_mw C o r q 0 (nI N) mn K)) (W1 := (cu_mw C o r q 0 (nI N) mn K)) rfl
  refine cu_callI (va_runV (As := [.int v1]) (rest := []) ⟨hx, hb, hml, hown, hts⟩ ((m_X2_isClock l D C o r q 0 N hN mn K v1) H.size) (cwV 1 hts gX2_next_X2_isClock rfl rfl rfl (by decide +kernel) ⟨Nat.le_of_ble_eq_true rfl, Nat.le_of_ble_eq_true rfl⟩) (cu_preV (ci := 2) sp hG hP hD rfl rfl) rfl rfl hl.1 rfl (lv_room (Nat.le_of_ble_eq_true rfl)) dX2_next_7 ⟨Nat.le_of_ble_eq_true rfl, Nat.le_of_ble_eq_true rfl⟩) sp hP hD hS hA (fun H locs hP hD hS => ?_)
  have hP : va_P D vwCl (cu_mw C o r q 0 (nI N) mn K) H := hP
  have hD : va_D A (cu_mw C o r q 0 (nI N) mn K) := hD
  refine lv_if_ne (tgt := 19) hx hb dX2_next_10 (by decide) (fun c_10 => ?_) (fun c_10 => ?_)
  · obtain ⟨i, hiN, rfl⟩ := k_isC_in hN c_10
    have hi : i < 10 := by omega
    have hcl9 : (nI i).toNatClampNeg = i := nI_clamp (by omega)
    refine lv_aload_n hx hb dX2_next_19 rfl (lv_at hl 0 rfl) ?_
    have sp := cu_sp.all (W0 := (cu_mw C o r q 0 (nI N) mn K)) (W1 := (cu_mw C o r q 0 (nI N) mn K)) rfl
    refine cu_callR (w := (cu_mw C o r q 0 (nI N) mn K)) (Wf := fun u => cu_kx C u mn K) (va_runV (As := []) (rest := []) ⟨hx, hb, hml, hown, hts⟩ ((m_X2_kept l D C o r q 0 (nI N) mn K) H.size) (cwV 0 hts gX2_next_X2_kept rfl rfl rfl (by decide +kernel) ⟨Nat.le_of_ble_eq_true rfl, Nat.le_of_ble_eq_true rfl⟩) (cu_preV (ci := 2) sp hG hP hD rfl rfl) rfl rfl hl.1 rfl (lv_room (Nat.le_of_ble_eq_true rfl)) dX2_next_20 ⟨Nat.le_of_ble_eq_true rfl, Nat.le_of_ble_eq_true rfl⟩) hD hS hA (fun kr ku H locs hP hD hS => ?_)
    have hP : va_P D vwCl ((cu_mw C o r q 0 (nI N) mn K) ++ cu_kx C (kr, ku) mn K) H := hP
    have hD : va_D A ((cu_mw C o r q 0 (nI N) mn K) ++ cu_kx C (kr, ku) mn K) := hD
    refine lv_astore_n (lv' := [(2, .ref kr), (0, .ref o), (1, .int (nI i))]) hx hb dX2_next_23 rfl hl (by decide) rfl (fun ls hl => ?_)
    refine lv_iconst (v := -1) hx hb dX2_next_24 (by decide) ?_
    refine lv_istore_n (lv' := [(3, .int (-1)), (2, .ref kr), (0, .ref o), (1, .int (nI i))]) hx hb dX2_next_25 rfl hl (by decide) rfl (fun ls hl => ?_)
    refine lv_iconst (v := 1) hx hb dX2_next_26 (by decide) ?_
    refine lv_istore (lv' := [(4, .int 1), (3, .int (-1)), (2, .ref kr), (0, .ref o), (1, .int (nI i))]) hx hb dX2_next_27 hl (by decide) rfl (fun ls hl => ?_)
    have hP : va_P D vwCl ((cu_mw C o r q 0 (nI N) (mn + nI 0) (k_at N mn K 0)) ++ cu_kx C (kr, ku) mn K) H := by rw [k_m0]; exact hP
    have hD : va_D A ((cu_mw C o r q 0 (nI N) (mn + nI 0) (k_at N mn K 0)) ++ cu_kx C (kr, ku) mn K) := by rw [k_m0]; exact hD
    have loop : ∀ (j : Nat), ∀ (b : Nat) (x3 : Int32), b + j = 720 → (x3 = -1 ∧ k_nextR mn (K i) j b = k_next mn (K i)) ∨ (¬ x3 = -1 ∧ x3 = k_next mn (K i)) → ∀ (H : Heap) (locs : List Loc) (ls : Array Slot), va_P D vwCl ((cu_mw C o r q 0 (nI N) (mn + nI b) (k_at N mn K b)) ++ cu_kx C (kr, ku) mn K) H → va_D A ((cu_mw C o r q 0 (nI N) (mn + nI b) (k_at N mn K b)) ++ cu_kx C (kr, ku) mn K) → va_S A H0 H locs → lv_has ls 5 [(0, .ref o), (1, .int (nI i)), (2, .ref kr), (3, .int x3), (4, .int (nI (b + 1)))] → W p l e { frames := 4, cells := 3, slots := 143, locals := 90 } s m args below meth c H locs 3 143 Z (F0 m 29 ls []) := by
      intro j
      induction j with
      | zero =>
        intro b x3 hj ht H locs ls hP hD hS hl
        refine lv_iload hx hb dX2_next_29 (lv_at hl 4 rfl) ?_
        refine lv_sipush (v := 720) hx hb dX2_next_31 (by decide) ?_
        refine lv_icmp_gt (tgt := 65) hx hb dX2_next_34 (by decide) (fun c_34 => ?_) (fun c_34 => absurd (nI_lt (a := 720) (by omega) (by omega)) c_34)
        refine lv_aload_n hx hb dX2_next_65 rfl (lv_at hl 0 rfl) ?_
        refine lv_aload_n hx hb dX2_next_66 rfl (lv_at hl 2 rfl) ?_
        have sp := cu_sp.all (W0 := ((cu_mw C o r q 0 (nI N) (mn + nI b) (k_at N mn K b)) ++ cu_kx C (kr, ku) mn K)) (W1 := ((cu_mw C o r q 0 (nI N) mn K) ++ cu_kx C (kr, ku) mn K)) cu_mwx_fst
        refine cu_callV (va_runV (As := [.ref kr]) (rest := []) ⟨hx, hb, hml, hown, hts⟩ ((m_X2_bringBack l D C o r q 0 (nI N) (mn + nI b) (k_at N mn K b) (kr, ku) mn K) H.size) (cwV 1 hts gX2_next_X2_bringBack rfl rfl rfl (by decide +kernel) ⟨Nat.le_of_ble_eq_true rfl, Nat.le_of_ble_eq_true rfl⟩) (cu_preV (ci := 2) sp hG hP hD rfl rfl) rfl rfl hl.1 rfl (lv_room (Nat.le_of_ble_eq_true rfl)) dX2_next_67 ⟨Nat.le_of_ble_eq_true rfl, Nat.le_of_ble_eq_true rfl⟩) sp hP hD hS hA (fun H locs hP hD hS => ?_)
        have hP : va_P D vwCl ((cu_mw C o r q 0 (nI N) mn K) ++ cu_kx C (kr, ku) mn K) H := hP
        have hD : va_D A ((cu_mw C o r q 0 (nI N) mn K) ++ cu_kx C (kr, ku) mn K) := hD
        refine lv_iload_n hx hb dX2_next_70 rfl (lv_at hl 3 rfl) ?_
        exact fin _ _ _ _ _ rfl (by have e : k_c1 N (nI i) = 0 := (by simp (decide := true) only [k_c1, if_neg c_10, if_pos c_34]); rw [e, if_pos rfl, hcl9]; rcases ht with z | z; exact z.1.trans z.2; exact z.2) (by have e : k_c1 N (nI i) = 0 := (by simp (decide := true) only [k_c1, if_neg c_10, if_pos c_34]); rw [e]; exact cu_P_pre hP) hS dX2_next_71
      | succ j ih =>
        intro b x3 hj ht H locs ls hP hD hS hl
        refine lv_iload hx hb dX2_next_29 (lv_at hl 4 rfl) ?_
        refine lv_sipush (v := 720) hx hb dX2_next_31 (by decide) ?_
        refine lv_icmp_gt (tgt := 65) hx hb dX2_next_34 (by decide) (fun c_34 => absurd c_34 (nI_nlt (a := 720) (by omega) (by decide))) (fun c_34 => ?_)
        refine lv_iload_n hx hb dX2_next_37 rfl (lv_at hl 3 rfl) ?_
        refine lv_iconst (v := -1) hx hb dX2_next_38 (by decide) ?_
        refine lv_icmp_ne (tgt := 65) hx hb dX2_next_39 (by decide) (fun c_39 => ?_) (fun c_39 => ?_)
        · refine lv_aload_n hx hb dX2_next_65 rfl (lv_at hl 0 rfl) ?_
          refine lv_aload_n hx hb dX2_next_66 rfl (lv_at hl 2 rfl) ?_
          have sp := cu_sp.all (W0 := ((cu_mw C o r q 0 (nI N) (mn + nI b) (k_at N mn K b)) ++ cu_kx C (kr, ku) mn K)) (W1 := ((cu_mw C o r q 0 (nI N) mn K) ++ cu_kx C (kr, ku) mn K)) cu_mwx_fst
          refine cu_callV (va_runV (As := [.ref kr]) (rest := []) ⟨hx, hb, hml, hown, hts⟩ ((m_X2_bringBack l D C o r q 0 (nI N) (mn + nI b) (k_at N mn K b) (kr, ku) mn K) H.size) (cwV 1 hts gX2_next_X2_bringBack rfl rfl rfl (by decide +kernel) ⟨Nat.le_of_ble_eq_true rfl, Nat.le_of_ble_eq_true rfl⟩) (cu_preV (ci := 2) sp hG hP hD rfl rfl) rfl rfl hl.1 rfl (lv_room (Nat.le_of_ble_eq_true rfl)) dX2_next_67 ⟨Nat.le_of_ble_eq_true rfl, Nat.le_of_ble_eq_true rfl⟩) sp hP hD hS hA (fun H locs hP hD hS => ?_)
          have hP : va_P D vwCl ((cu_mw C o r q 0 (nI N) mn K) ++ cu_kx C (kr, ku) mn K) H := hP
          have hD : va_D A ((cu_mw C o r q 0 (nI N) mn K) ++ cu_kx C (kr, ku) mn K) := hD
          refine lv_iload_n hx hb dX2_next_70 rfl (lv_at hl 3 rfl) ?_
          exact fin _ _ _ _ _ rfl (by have e : k_c1 N (nI i) = 0 := (by simp (decide := true) only [k_c1, if_neg c_10, if_neg c_34, if_neg c_39]); rw [e, if_pos rfl, hcl9]; exact (ht.resolve_left (fun z => c_39 z.1)).2) (by have e : k_c1 N (nI i) = 0 := (by simp (decide := true) only [k_c1, if_neg c_10, if_neg c_34, if_neg c_39]); rw [e]; exact cu_P_pre hP) hS dX2_next_71
        · refine lv_aload_n hx hb dX2_next_42 rfl (lv_at hl 0 rfl) ?_
          have sp := cu_sp.pre (w := (cu_mw C o r q 0 (nI N) (mn + nI b) (k_at N mn K b))) (w' := (cu_mw C o r q 0 (nI N) ((mn + nI b) + 1) (k_upto (k_min (mn + nI b)) (k_at N mn K b) N))) (Y := cu_kx C (kr, ku) mn K) cu_mw_fst
          refine cu_callV (va_runV (As := []) (rest := []) ⟨hx, hb, hml, hown, hts⟩ ((m_X2_minuteOn l D C o r q 0 N hN (mn + nI b) (k_at N mn K b) (k_at_ok hok b)) H.size) (cwV 0 hts gX2_next_X2_minuteOn rfl rfl rfl (by decide +kernel) ⟨Nat.le_of_ble_eq_true rfl, Nat.le_of_ble_eq_true rfl⟩) (cu_preV (ci := 2) sp hG hP hD rfl rfl) rfl rfl hl.1 rfl (lv_room (Nat.le_of_ble_eq_true rfl)) dX2_next_43 ⟨Nat.le_of_ble_eq_true rfl, Nat.le_of_ble_eq_true rfl⟩) sp hP hD hS hA (fun H locs hP hD hS => ?_)
          have hP : va_P D vwCl ((cu_mw C o r q 0 (nI N) ((mn + nI b) + 1) (k_upto (k_min (mn + nI b)) (k_at N mn K b) N)) ++ cu_kx C (kr, ku) mn K) H := hP
          have hD : va_D A ((cu_mw C o r q 0 (nI N) ((mn + nI b) + 1) (k_upto (k_min (mn + nI b)) (k_at N mn K b) N)) ++ cu_kx C (kr, ku) mn K) := hD
          rw [Int32.add_assoc, nI_1] at hP hD
          have hP : va_P D vwCl ((cu_mw C o r q 0 (nI N) (mn + nI (b + 1)) (k_at N mn K (b + 1))) ++ cu_kx C (kr, ku) mn K) H := hP
          have hD : va_D A ((cu_mw C o r q 0 (nI N) (mn + nI (b + 1)) (k_at N mn K (b + 1))) ++ cu_kx C (kr, ku) mn K) := hD
          refine lv_aload_n hx hb dX2_next_46 rfl (lv_at hl 0 rfl) ?_
          refine lv_iload_n hx hb dX2_next_47 rfl (lv_at hl 1 rfl) ?_
          refine lv_bipush (v := 8) hx hb dX2_next_48 (by decide) ?_
          have sp := cu_sp.pre (w := (cu_mw C o r q 0 (nI N) (mn + nI (b + 1)) (k_at N mn K (b + 1)))) (w' := (cu_mw C o r q 0 (nI N) (mn + nI (b + 1)) (k_at N mn K (b + 1)))) (Y := cu_kx C (kr, ku) mn K) rfl
          refine cu_callI (va_runV (As := [.int (nI i), .int 8]) (rest := []) ⟨hx, hb, hml, hown, hts⟩ ((m_X2_sh l D C o r q 0 N hN (mn + nI (b + 1)) (k_at N mn K (b + 1)) i 8 hi (by decide) ((k_at N mn K (b + 1)) i 8) rfl) H.size) (cwV 2 hts gX2_next_X2_sh rfl rfl rfl (by decide +kernel) ⟨Nat.le_of_ble_eq_true rfl, Nat.le_of_ble_eq_true rfl⟩) (cu_preV (ci := 2) sp hG hP hD rfl rfl) rfl rfl hl.1 rfl (lv_room (Nat.le_of_ble_eq_true rfl)) dX2_next_50 ⟨Nat.le_of_ble_eq_true rfl, Nat.le_of_ble_eq_true rfl⟩) sp hP hD hS hA (fun H locs hP hD hS => ?_)
          have hP : va_P D vwCl ((cu_mw C o r q 0 (nI N) (mn + nI (b + 1)) (k_at N mn K (b + 1))) ++ cu_kx C (kr, ku) mn K) H := hP
          have hD : va_D A ((cu_mw C o r q 0 (nI N) (mn + nI (b + 1)) (k_at N mn K (b + 1))) ++ cu_kx C (kr, ku) mn K) := hD
          refine lv_if_le (tgt := 59) hx hb dX2_next_53 (by decide) (fun c_53 => ?_) (fun c_53 => ?_)
          · refine lv_iinc (v := (nI ((b + 1) + 1))) (lv' := [(4, .int (nI ((b + 1) + 1))), (0, .ref o), (1, .int (nI i)), (2, .ref kr), (3, .int x3)]) hx hb dX2_next_59 hl (k := 4) rfl (nI_1 (b + 1)) (by decide) rfl (fun ls hl => ?_)
            refine lv_goto (tgt := 29) hx hb dX2_next_62 (by decide) ?_
            exact ih (b + 1) _ (by omega) (Or.inl ⟨c_39, by rw [← (ht.resolve_right (fun z => z.1 c_39)).2]; show _ = if k_at1 mn (K i) (b + 1) 8 ≤ 0 then _ else _; rw [if_pos (by rw [← k_at_at1 hiN]; exact c_53)]⟩) _ _ _ hP hD hS (lv_sub hl [1, 2, 3, 4, 0] rfl)
          · refine lv_iload hx hb dX2_next_56 (lv_at hl 4 rfl) ?_
            refine lv_istore_n (lv' := [(3, .int (nI (b + 1))), (0, .ref o), (1, .int (nI i)), (2, .ref kr), (4, .int (nI (b + 1)))]) hx hb dX2_next_58 rfl hl (by decide) rfl (fun ls hl => ?_)
            refine lv_iinc (v := (nI ((b + 1) + 1))) (lv' := [(4, .int (nI ((b + 1) + 1))), (3, .int (nI (b + 1))), (0, .ref o), (1, .int (nI i)), (2, .ref kr)]) hx hb dX2_next_59 hl (k := 4) rfl (nI_1 (b + 1)) (by decide) rfl (fun ls hl => ?_)
            refine lv_goto (tgt := 29) hx hb dX2_next_62 (by decide) ?_
            exact ih (b + 1) _ (by omega) (Or.inr ⟨k_nx_ne (by omega), by rw [← (ht.resolve_right (fun z => z.1 c_39)).2]; show _ = if k_at1 mn (K i) (b + 1) 8 ≤ 0 then _ else _; rw [if_neg (by rw [← k_at_at1 hiN]; exact c_53)]; exact (nI_1 b).symm⟩) _ _ _ hP hD hS (lv_sub hl [2, 3, 4, 1, 0] rfl)
    exact loop _ 0 _ rfl (Or.inl ⟨rfl, rfl⟩) _ _ _ hP hD hS (lv_sub hl [3, 4, 2, 1, 0] rfl)
  · refine lv_aload_n hx hb dX2_next_13 rfl (lv_at hl 0 rfl) ?_
    refine lv_iconst (v := 1) hx hb dX2_next_14 (by decide) ?_
    have sp := cu_sp.all (W0 := (cu_mw C o r q 0 (nI N) mn K)) (W1 := (cu_mw C o r q 1 (nI N) mn K)) cu_mw_fst
    refine cu_callI (va_runV (As := [.int 1]) (rest := []) ⟨hx, hb, hml, hown, hts⟩ ((m_X2_fail l D C o r q 0 N hN mn K 1) H.size) (cwV 1 hts gX2_next_X2_fail rfl rfl rfl (by decide +kernel) ⟨Nat.le_of_ble_eq_true rfl, Nat.le_of_ble_eq_true rfl⟩) (cu_preV (ci := 2) sp hG hP hD rfl rfl) rfl rfl hl.1 rfl (lv_room (Nat.le_of_ble_eq_true rfl)) dX2_next_15 ⟨Nat.le_of_ble_eq_true rfl, Nat.le_of_ble_eq_true rfl⟩) sp hP hD hS hA (fun H locs hP hD hS => ?_)
    have hP : va_P D vwCl (cu_mw C o r q 1 (nI N) mn K) H := hP
    have hD : va_D A (cu_mw C o r q 1 (nI N) mn K) := hD
    refine W.widen (k := 3) (n := 143) (Nat.le_of_ble_eq_true rfl) (Nat.le_of_ble_eq_true rfl) ?_
    exact fin _ _ _ _ _ rfl (by have e : k_c1 N v1 = 1 := (by simp (decide := true) only [k_c1, if_pos c_10]); rw [e, if_neg (by decide)]) (by have e : k_c1 N v1 = 1 := (by simp (decide := true) only [k_c1, if_pos c_10]); rw [e]; exact hP) hS dX2_next_18

set_option maxHeartbeats 4000000 in
set_option maxRecDepth 100000 in
theorem m_X2_loudest (l : Launch) (D : va_G) (C : Nat → ClassId) (o r q : Nat) (th : Int32) (N : Nat) (hN : N ≤ 10) (mn : Int32) (K : Nat → Nat → Int32) (v1 : Int32) (hok : ∀ c, c < N → k_ok (K c)) : cu_I l D C yX2_loudest wsX2_loudest { frames := 4, cells := 3, slots := 143, locals := 90 } [.ref o, .int v1] (cu_mw C o r q th (nI N) mn K) (cu_mw C o r q (k_cM v1) (nI N) mn K) (if k_cM v1 = 0 then k_loud N mn K v1.toNatClampNeg else 0) 3 143 := by
  refine cu_openI (cc := cX2_loudest) (maxL := 6) (ty := .int) (own := RX2) (by decide) rfl rfl (Nat.le_of_ble_eq_true rfl) ?_
  intro p e s m args below meth c A Z H0 ls e0 hx hb hml hts hown hnm hG hP hD hS hA hl fin
  have hK := hG.1
  have hl : lv_has ls 6 [(0, .ref o), (1, .int v1)] := hl
  have hiX2 : ∀ w ∈ wsX20, w ∈ wsX2_loudest := by decide +kernel
  refine lv_aload_n hx hb dX2_loudest_0 rfl (lv_at hl 0 rfl) ?_
  refine lv_iconst (v := 0) hx hb dX2_loudest_1 (by decide) ?_
  refine va_put (D := D) (ci := 2) (v := .int 0) (ty := .int) (C := RX2) (T := TX2) (N := 4) hx hb hts hiX2 tyX2 tyX2_ok nmX2 hown hK hP hD hS 0 rfl rfl 0 (by decide) (hts (.fieldLink RX2 16 "CuckooShopModel" "thrown" "I") (by decide +kernel)) (fun _ h9 => h9) rfl (by decide +kernel) rfl rfl (Nat.le_of_ble_eq_true rfl) dX2_loudest_2 (fun H locs hP hD hS => ?_)
  have hP : va_P D vwCl (cu_mw C o r q 0 (nI N) mn K) H := hP
  have hD : va_D A (cu_mw C o r q 0 (nI N) mn K) := hD
  refine lv_iload_n hx hb dX2_loudest_5 rfl (lv_at hl 1 rfl) ?_
  refine lv_iconst (v := 1) hx hb dX2_loudest_6 (by decide) ?_
  refine lv_sipush (v := 720) hx hb dX2_loudest_7 (by decide) ?_
  have sp := cu_sp.nil (W0 := (cu_mw C o r q 0 (nI N) mn K))
  refine cu_callI (va_runS (As := [.int v1, .int 1, .int 720]) (rest := []) ⟨hx, hb, hml, hown, hts⟩ ((m_X2_isIn l D C v1 1 720) H.size) (va_cwS 3 hts gX2_loudest_X2_isIn rfl rfl rfl (by decide +kernel) ⟨Nat.le_of_ble_eq_true rfl, Nat.le_of_ble_eq_true rfl⟩) (cu_preS sp hG hP hD) rfl rfl hl.1 rfl (lv_room (Nat.le_of_ble_eq_true rfl)) dX2_loudest_10 ⟨Nat.le_of_ble_eq_true rfl, Nat.le_of_ble_eq_true rfl⟩) sp hP hD hS hA (fun H locs hP hD hS => ?_)
  refine lv_if_ne (tgt := 22) hx hb dX2_loudest_13 (by decide) (fun c_13 => ?_) (fun c_13 => ?_)
  · obtain ⟨t, ht1, ht, rfl⟩ := k_isM_in c_13
    have hcl9 : (nI t).toNatClampNeg = t := nI_clamp (by omega)
    refine lv_aload_n hx hb dX2_loudest_22 rfl (lv_at hl 0 rfl) ?_
    have sp := cu_sp.all (W0 := (cu_mw C o r q 0 (nI N) mn K)) (W1 := (cu_mw C o r q 0 (nI N) mn K)) rfl
    refine cu_callR (w := (cu_mw C o r q 0 (nI N) mn K)) (Wf := fun u => cu_kx C u mn K) (va_runV (As := []) (rest := []) ⟨hx, hb, hml, hown, hts⟩ ((m_X2_kept l D C o r q 0 (nI N) mn K) H.size) (cwV 0 hts gX2_loudest_X2_kept rfl rfl rfl (by decide +kernel) ⟨Nat.le_of_ble_eq_true rfl, Nat.le_of_ble_eq_true rfl⟩) (cu_preV (ci := 2) sp hG hP hD rfl rfl) rfl rfl hl.1 rfl (lv_room (Nat.le_of_ble_eq_true rfl)) dX2_loudest_23 ⟨Nat.le_of_ble_eq_true rfl, Nat.le_of_ble_eq_true rfl⟩) hD hS hA (fun kr ku H locs hP hD hS => ?_)
    have hP : va_P D vwCl ((cu_mw C o r q 0 (nI N) mn K) ++ cu_kx C (kr, ku) mn K) H := hP
    have hD : va_D A ((cu_mw C o r q 0 (nI N) mn K) ++ cu_kx C (kr, ku) mn K) := hD
    refine lv_astore_n (lv' := [(2, .ref kr), (0, .ref o), (1, .int (nI t))]) hx hb dX2_loudest_26 rfl hl (by decide) rfl (fun ls hl => ?_)
    refine lv_iconst (v := -1) hx hb dX2_loudest_27 (by decide) ?_
    refine lv_istore_n (lv' := [(3, .int (-1)), (2, .ref kr), (0, .ref o), (1, .int (nI t))]) hx hb dX2_loudest_28 rfl hl (by decide) rfl (fun ls hl => ?_)
    refine lv_iconst (v := 0) hx hb dX2_loudest_29 (by decide) ?_
    refine lv_istore (lv' := [(4, .int 0), (3, .int (-1)), (2, .ref kr), (0, .ref o), (1, .int (nI t))]) hx hb dX2_loudest_30 hl (by decide) rfl (fun ls hl => ?_)
    refine lv_iconst (v := 1) hx hb dX2_loudest_32 (by decide) ?_
    refine lv_istore (lv' := [(5, .int 1), (4, .int 0), (3, .int (-1)), (2, .ref kr), (0, .ref o), (1, .int (nI t))]) hx hb dX2_loudest_33 hl (by decide) rfl (fun ls hl => ?_)
    have hP : va_P D vwCl ((cu_mw C o r q 0 (nI N) (mn + nI 0) (k_at N mn K 0)) ++ cu_kx C (kr, ku) mn K) H := by rw [k_m0]; exact hP
    have hD : va_D A ((cu_mw C o r q 0 (nI N) (mn + nI 0) (k_at N mn K 0)) ++ cu_kx C (kr, ku) mn K) := by rw [k_m0]; exact hD
    have loop : ∀ (j : Nat), ∀ (b : Nat) (u : Int32 × Int32), b + j = t → k_loudR N mn K j b u = k_loudR N mn K t 0 (0, -1) → ∀ (H : Heap) (locs : List Loc) (ls : Array Slot), va_P D vwCl ((cu_mw C o r q 0 (nI N) (mn + nI b) (k_at N mn K b)) ++ cu_kx C (kr, ku) mn K) H → va_D A ((cu_mw C o r q 0 (nI N) (mn + nI b) (k_at N mn K b)) ++ cu_kx C (kr, ku) mn K) → va_S A H0 H locs → lv_has ls 6 [(0, .ref o), (1, .int (nI t)), (2, .ref kr), (3, .int u.2), (4, .int u.1), (5, .int (nI (b + 1)))] → W p l e { frames := 4, cells := 3, slots := 143, locals := 90 } s m args below meth c H locs 3 143 Z (F0 m 35 ls []) := by
      intro j
      induction j with
      | zero =>
        intro b u hj hf H locs ls hP hD hS hl
        refine lv_iload hx hb dX2_loudest_35 (lv_at hl 5 rfl) ?_
        refine lv_iload_n hx hb dX2_loudest_37 rfl (lv_at hl 1 rfl) ?_
        refine lv_icmp_gt (tgt := 76) hx hb dX2_loudest_38 (by decide) (fun c_38 => ?_) (fun c_38 => absurd (nI_lt (a := t) (by omega) (by omega)) c_38)
        refine lv_aload_n hx hb dX2_loudest_76 rfl (lv_at hl 0 rfl) ?_
        refine lv_aload_n hx hb dX2_loudest_77 rfl (lv_at hl 2 rfl) ?_
        have sp := cu_sp.all (W0 := ((cu_mw C o r q 0 (nI N) (mn + nI b) (k_at N mn K b)) ++ cu_kx C (kr, ku) mn K)) (W1 := ((cu_mw C o r q 0 (nI N) mn K) ++ cu_kx C (kr, ku) mn K)) cu_mwx_fst
        refine cu_callV (va_runV (As := [.ref kr]) (rest := []) ⟨hx, hb, hml, hown, hts⟩ ((m_X2_bringBack l D C o r q 0 (nI N) (mn + nI b) (k_at N mn K b) (kr, ku) mn K) H.size) (cwV 1 hts gX2_loudest_X2_bringBack rfl rfl rfl (by decide +kernel) ⟨Nat.le_of_ble_eq_true rfl, Nat.le_of_ble_eq_true rfl⟩) (cu_preV (ci := 2) sp hG hP hD rfl rfl) rfl rfl hl.1 rfl (lv_room (Nat.le_of_ble_eq_true rfl)) dX2_loudest_78 ⟨Nat.le_of_ble_eq_true rfl, Nat.le_of_ble_eq_true rfl⟩) sp hP hD hS hA (fun H locs hP hD hS => ?_)
        have hP : va_P D vwCl ((cu_mw C o r q 0 (nI N) mn K) ++ cu_kx C (kr, ku) mn K) H := hP
        have hD : va_D A ((cu_mw C o r q 0 (nI N) mn K) ++ cu_kx C (kr, ku) mn K) := hD
        refine lv_iload_n hx hb dX2_loudest_81 rfl (lv_at hl 3 rfl) ?_
        exact fin _ _ _ _ _ rfl (by have e : k_cM (nI t) = 0 := (by simp (decide := true) only [k_cM, if_neg c_13, if_pos c_38]); rw [e, if_pos rfl, hcl9]; exact congrArg Prod.snd hf) (by have e : k_cM (nI t) = 0 := (by simp (decide := true) only [k_cM, if_neg c_13, if_pos c_38]); rw [e]; exact cu_P_pre hP) hS dX2_loudest_82
      | succ j ih =>
        intro b u hj hf H locs ls hP hD hS hl
        refine lv_iload hx hb dX2_loudest_35 (lv_at hl 5 rfl) ?_
        refine lv_iload_n hx hb dX2_loudest_37 rfl (lv_at hl 1 rfl) ?_
        refine lv_icmp_gt (tgt := 76) hx hb dX2_loudest_38 (by decide) (fun c_38 => absurd c_38 (nI_nlt (a := t) (by omega) (by omega))) (fun c_38 => ?_)
        refine lv_aload_n hx hb dX2_loudest_41 rfl (lv_at hl 0 rfl) ?_
        have sp := cu_sp.pre (w := (cu_mw C o r q 0 (nI N) (mn + nI b) (k_at N mn K b))) (w' := (cu_mw C o r q 0 (nI N) ((mn + nI b) + 1) (k_upto (k_min (mn + nI b)) (k_at N mn K b) N))) (Y := cu_kx C (kr, ku) mn K) cu_mw_fst
        refine cu_callV (va_runV (As := []) (rest := []) ⟨hx, hb, hml, hown, hts⟩ ((m_X2_minuteOn l D C o r q 0 N hN (mn + nI b) (k_at N mn K b) (k_at_ok hok b)) H.size) (cwV 0 hts gX2_loudest_X2_minuteOn rfl rfl rfl (by decide +kernel) ⟨Nat.le_of_ble_eq_true rfl, Nat.le_of_ble_eq_true rfl⟩) (cu_preV (ci := 2) sp hG hP hD rfl rfl) rfl rfl hl.1 rfl (lv_room (Nat.le_of_ble_eq_true rfl)) dX2_loudest_42 ⟨Nat.le_of_ble_eq_true rfl, Nat.le_of_ble_eq_true rfl⟩) sp hP hD hS hA (fun H locs hP hD hS => ?_)
        have hP : va_P D vwCl ((cu_mw C o r q 0 (nI N) ((mn + nI b) + 1) (k_upto (k_min (mn + nI b)) (k_at N mn K b) N)) ++ cu_kx C (kr, ku) mn K) H := hP
        have hD : va_D A ((cu_mw C o r q 0 (nI N) ((mn + nI b) + 1) (k_upto (k_min (mn + nI b)) (k_at N mn K b) N)) ++ cu_kx C (kr, ku) mn K) := hD
        rw [Int32.add_assoc, nI_1] at hP hD
        have hP : va_P D vwCl ((cu_mw C o r q 0 (nI N) (mn + nI (b + 1)) (k_at N mn K (b + 1))) ++ cu_kx C (kr, ku) mn K) H := hP
        have hD : va_D A ((cu_mw C o r q 0 (nI N) (mn + nI (b + 1)) (k_at N mn K (b + 1))) ++ cu_kx C (kr, ku) mn K) := hD
        refine lv_aload_n hx hb dX2_loudest_45 rfl (lv_at hl 0 rfl) ?_
        refine lv_bipush (v := 8) hx hb dX2_loudest_46 (by decide) ?_
        have sp := cu_sp.pre (w := (cu_mw C o r q 0 (nI N) (mn + nI (b + 1)) (k_at N mn K (b + 1)))) (w' := (cu_mw C o r q 0 (nI N) (mn + nI (b + 1)) (k_at N mn K (b + 1)))) (Y := cu_kx C (kr, ku) mn K) rfl
        refine cu_callI (va_runV (As := [.int 8]) (rest := []) ⟨hx, hb, hml, hown, hts⟩ ((m_X2_all l D C o r q 0 N hN (mn + nI (b + 1)) (k_at N mn K (b + 1)) 8 (by decide)) H.size) (cwV 1 hts gX2_loudest_X2_all rfl rfl rfl (by decide +kernel) ⟨Nat.le_of_ble_eq_true rfl, Nat.le_of_ble_eq_true rfl⟩) (cu_preV (ci := 2) sp hG hP hD rfl rfl) rfl rfl hl.1 rfl (lv_room (Nat.le_of_ble_eq_true rfl)) dX2_loudest_48 ⟨Nat.le_of_ble_eq_true rfl, Nat.le_of_ble_eq_true rfl⟩) sp hP hD hS hA (fun H locs hP hD hS => ?_)
        have hP : va_P D vwCl ((cu_mw C o r q 0 (nI N) (mn + nI (b + 1)) (k_at N mn K (b + 1))) ++ cu_kx C (kr, ku) mn K) H := hP
        have hD : va_D A ((cu_mw C o r q 0 (nI N) (mn + nI (b + 1)) (k_at N mn K (b + 1))) ++ cu_kx C (kr, ku) mn K) := hD
        refine cu_top (x' := k_latest N mn K b) (k_latest_at) ?_
        refine lv_iload hx hb dX2_loudest_51 (lv_at hl 4 rfl) ?_
        refine lv_icmp_gt (tgt := 59) hx hb dX2_loudest_53 (by decide) (fun c_53 => ?_) (fun c_53 => ?_)
        · refine lv_iload hx hb dX2_loudest_59 (lv_at hl 5 rfl) ?_
          refine lv_istore_n (lv' := [(3, .int (nI (b + 1))), (0, .ref o), (1, .int (nI t)), (2, .ref kr), (4, .int u.1), (5, .int (nI (b + 1)))]) hx hb dX2_loudest_61 rfl hl (by decide) rfl (fun ls hl => ?_)
          refine lv_aload_n hx hb dX2_loudest_62 rfl (lv_at hl 1 rfl) ?_
          refine lv_bipush (v := 8) hx hb dX2_loudest_63 (by decide) ?_
          have sp := cu_sp.pre (w := (cu_mw C o r q 0 (nI N) (mn + nI (b + 1)) (k_at N mn K (b + 1)))) (w' := (cu_mw C o r q 0 (nI N) (mn + nI (b + 1)) (k_at N mn K (b + 1)))) (Y := cu_kx C (kr, ku) mn K) rfl
          refine cu_callI (va_runV (As := [.int 8]) (rest := []) ⟨hx, hb, hml, hown, hts⟩ ((m_X2_all l D C o r q 0 N hN (mn + nI (b + 1)) (k_at N mn K (b + 1)) 8 (by decide)) H.size) (cwV 1 hts gX2_loudest_X2_all rfl rfl rfl (by decide +kernel) ⟨Nat.le_of_ble_eq_true rfl, Nat.le_of_ble_eq_true rfl⟩) (cu_preV (ci := 2) sp hG hP hD rfl rfl) rfl rfl hl.1 rfl (lv_room (Nat.le_of_ble_eq_true rfl)) dX2_loudest_65 ⟨Nat.le_of_ble_eq_true rfl, Nat.le_of_ble_eq_true rfl⟩) sp hP hD hS hA (fun H locs hP hD hS => ?_)
          have hP : va_P D vwCl ((cu_mw C o r q 0 (nI N) (mn + nI (b + 1)) (k_at N mn K (b + 1))) ++ cu_kx C (kr, ku) mn K) H := hP
          have hD : va_D A ((cu_mw C o r q 0 (nI N) (mn + nI (b + 1)) (k_at N mn K (b + 1))) ++ cu_kx C (kr, ku) mn K) := hD
          refine cu_top (x' := k_latest N mn K b) (k_latest_at) ?_
          refine lv_istore (lv' := [(4, .int (k_latest N mn K b)), (3, .int (nI (b + 1))), (0, .ref o), (1, .int (nI t)), (2, .ref kr), (5, .int (nI (b + 1)))]) hx hb dX2_loudest_68 hl (by decide) rfl (fun ls hl => ?_)
          refine lv_iinc (v := (nI ((b + 1) + 1))) (lv' := [(5, .int (nI ((b + 1) + 1))), (4, .int (k_latest N mn K b)), (3, .int (nI (b + 1))), (0, .ref o), (1, .int (nI t)), (2, .ref kr)]) hx hb dX2_loudest_70 hl (k := 5) rfl (nI_1 (b + 1)) (by decide) rfl (fun ls hl => ?_)
          refine lv_goto (tgt := 35) hx hb dX2_loudest_73 (by decide) ?_
          exact ih (b + 1) (k_latest N mn K b, nI (b + 1)) (by omega) (by rw [← hf]; show _ = k_loudR N mn K j (b + 1) (k_loud1 N mn K b u); congr 1; unfold k_loud1; rw [if_neg (Int32.not_le.mpr c_53), nI_1]) _ _ _ hP hD hS (lv_sub hl [3, 4, 5, 2, 1, 0] rfl)
        · refine lv_goto (tgt := 70) hx hb dX2_loudest_56 (by decide) ?_
          refine lv_iinc (v := (nI ((b + 1) + 1))) (lv' := [(5, .int (nI ((b + 1) + 1))), (0, .ref o), (1, .int (nI t)), (2, .ref kr), (3, .int u.2), (4, .int u.1)]) hx hb dX2_loudest_70 hl (k := 5) rfl (nI_1 (b + 1)) (by decide) rfl (fun ls hl => ?_)
          refine lv_goto (tgt := 35) hx hb dX2_loudest_73 (by decide) ?_
          exact ih (b + 1) u (by omega) (by rw [← hf]; show _ = k_loudR N mn K j (b + 1) (k_loud1 N mn K b u); congr 1; exact (if_pos (Int32.not_lt.mp c_53)).symm) _ _ _ hP hD hS (lv_sub hl [1, 2, 3, 4, 5, 0] rfl)
    exact loop _ 0 (0, -1) (by omega) rfl _ _ _ hP hD hS (lv_sub hl [4, 5, 3, 2, 1, 0] rfl)
  · refine lv_aload_n hx hb dX2_loudest_16 rfl (lv_at hl 0 rfl) ?_
    refine lv_iconst (v := 1) hx hb dX2_loudest_17 (by decide) ?_
    have sp := cu_sp.all (W0 := (cu_mw C o r q 0 (nI N) mn K)) (W1 := (cu_mw C o r q 1 (nI N) mn K)) cu_mw_fst
    refine cu_callI (va_runV (As := [.int 1]) (rest := []) ⟨hx, hb, hml, hown, hts⟩ ((m_X2_fail l D C o r q 0 N hN mn K 1) H.size) (cwV 1 hts gX2_loudest_X2_fail rfl rfl rfl (by decide +kernel) ⟨Nat.le_of_ble_eq_true rfl, Nat.le_of_ble_eq_true rfl⟩) (cu_preV (ci := 2) sp hG hP hD rfl rfl) rfl rfl hl.1 rfl (lv_room (Nat.le_of_ble_eq_true rfl)) dX2_loudest_18 ⟨Nat.le_of_ble_eq_true rfl, Nat.le_of_ble_eq_true rfl⟩) sp hP hD hS hA (fun H locs hP hD hS => ?_)
    have hP : va_P D vwCl (cu_mw C o r q 1 (nI N) mn K) H := hP
    have hD : va_D A (cu_mw C o r q 1 (nI N) mn K) := hD
    refine W.widen (k := 3) (n := 143) (Nat.le_of_ble_eq_true rfl) (Nat.le_of_ble_eq_true rfl) ?_
    exact fin _ _ _ _ _ rfl (by have e : k_cM v1 = 1 := (by simp (decide := true) only [k_cM, if_pos c_13]); rw [e, if_neg (by decide)]) (by have e : k_cM v1 = 1 := (by simp (decide := true) only [k_cM, if_pos c_13]); rw [e]; exact hP) hS dX2_loudest_21

set_option maxHeartbeats 4000000 in
set_option maxRecDepth 100000 in
theorem m_X2_foresee (l : Launch) (D : va_G) (C : Nat → ClassId) (o r q : Nat) (th : Int32) (N : Nat) (hN : N ≤ 10) (mn : Int32) (K : Nat → Nat → Int32) (v1 : Int32) (v2 : Int32) (hok : ∀ c, c < N → k_ok (K c)) (hm : 0 ≤ mn.toInt) (hm2 : mn.toInt ≤ 1000000) : cu_I l D C yX2_foresee wsX2_foresee { frames := 5, cells := 3, slots := 143, locals := 112 } [.ref o, .int v1, .int v2] (cu_mw C o r q th (nI N) mn K) (cu_mw C o r q (k_cF v1 v2) (nI N) mn K) (if k_cF v1 v2 = 0 then k_foreM N mn K v1.toNatClampNeg v2 else 0) 3 143 := by
  refine cu_openI (cc := cX2_foresee) (maxL := 7) (ty := .int) (own := RX2) (by decide) rfl rfl (Nat.le_of_ble_eq_true rfl) ?_
  intro p e s m args below meth c A Z H0 ls e0 hx hb hml hts hown hnm hG hP hD hS hA hl fin
  have hK := hG.1
  have hl : lv_has ls 7 [(0, .ref o), (1, .int v1), (2, .int v2)] := hl
  have hiX2 : ∀ w ∈ wsX20, w ∈ wsX2_foresee := by decide +kernel
  refine lv_aload_n hx hb dX2_foresee_0 rfl (lv_at hl 0 rfl) ?_
  refine lv_iconst (v := 0) hx hb dX2_foresee_1 (by decide) ?_
  refine va_put (D := D) (ci := 2) (v := .int 0) (ty := .int) (C := RX2) (T := TX2) (N := 4) hx hb hts hiX2 tyX2 tyX2_ok nmX2 hown hK hP hD hS 0 rfl rfl 0 (by decide) (hts (.fieldLink RX2 16 "CuckooShopModel" "thrown" "I") (by decide +kernel)) (fun _ h9 => h9) rfl (by decide +kernel) rfl rfl (Nat.le_of_ble_eq_true rfl) dX2_foresee_2 (fun H locs hP hD hS => ?_)
  have hP : va_P D vwCl (cu_mw C o r q 0 (nI N) mn K) H := hP
  have hD : va_D A (cu_mw C o r q 0 (nI N) mn K) := hD
  refine lv_iload_n hx hb dX2_foresee_5 rfl (lv_at hl 1 rfl) ?_
  refine lv_iconst (v := 1) hx hb dX2_foresee_6 (by decide) ?_
  refine lv_sipush (v := 720) hx hb dX2_foresee_7 (by decide) ?_
  have sp := cu_sp.nil (W0 := (cu_mw C o r q 0 (nI N) mn K))
  refine cu_callI (va_runS (As := [.int v1, .int 1, .int 720]) (rest := []) ⟨hx, hb, hml, hown, hts⟩ ((m_X2_isIn l D C v1 1 720) H.size) (va_cwS 3 hts gX2_foresee_X2_isIn rfl rfl rfl (by decide +kernel) ⟨Nat.le_of_ble_eq_true rfl, Nat.le_of_ble_eq_true rfl⟩) (cu_preS sp hG hP hD) rfl rfl hl.1 rfl (lv_room (Nat.le_of_ble_eq_true rfl)) dX2_foresee_10 ⟨Nat.le_of_ble_eq_true rfl, Nat.le_of_ble_eq_true rfl⟩) sp hP hD hS hA (fun H locs hP hD hS => ?_)
  refine lv_if_ne (tgt := 22) hx hb dX2_foresee_13 (by decide) (fun c_13 => ?_) (fun c_13 => ?_)
  · refine lv_iload_n hx hb dX2_foresee_22 rfl (lv_at hl 2 rfl) ?_
    refine lv_iconst (v := 0) hx hb dX2_foresee_23 (by decide) ?_
    refine lv_iconst (v := 3) hx hb dX2_foresee_24 (by decide) ?_
    have sp := cu_sp.nil (W0 := (cu_mw C o r q 0 (nI N) mn K))
    refine cu_callI (va_runS (As := [.int v2, .int 0, .int 3]) (rest := []) ⟨hx, hb, hml, hown, hts⟩ ((m_X2_isIn l D C v2 0 3) H.size) (va_cwS 3 hts gX2_foresee_X2_isIn rfl rfl rfl (by decide +kernel) ⟨Nat.le_of_ble_eq_true rfl, Nat.le_of_ble_eq_true rfl⟩) (cu_preS sp hG hP hD) rfl rfl hl.1 rfl (lv_room (Nat.le_of_ble_eq_true rfl)) dX2_foresee_25 ⟨Nat.le_of_ble_eq_true rfl, Nat.le_of_ble_eq_true rfl⟩) sp hP hD hS hA (fun H locs hP hD hS => ?_)
    refine lv_if_ne (tgt := 37) hx hb dX2_foresee_28 (by decide) (fun c_28 => ?_) (fun c_28 => ?_)
    · obtain ⟨t, ht1, ht, rfl⟩ := k_isM_in c_13
      have hcl9 : (nI t).toNatClampNeg = t := nI_clamp (by omega)
      refine lv_aload_n hx hb dX2_foresee_37 rfl (lv_at hl 0 rfl) ?_
      have sp := cu_sp.all (W0 := (cu_mw C o r q 0 (nI N) mn K)) (W1 := (cu_mw C o r q 0 (nI N) mn K)) rfl
      refine cu_callR (w := (cu_mw C o r q 0 (nI N) mn K)) (Wf := fun u => cu_kx C u mn K) (va_runV (As := []) (rest := []) ⟨hx, hb, hml, hown, hts⟩ ((m_X2_kept l D C o r q 0 (nI N) mn K) H.size) (cwV 0 hts gX2_foresee_X2_kept rfl rfl rfl (by decide +kernel) ⟨Nat.le_of_ble_eq_true rfl, Nat.le_of_ble_eq_true rfl⟩) (cu_preV (ci := 2) sp hG hP hD rfl rfl) rfl rfl hl.1 rfl (lv_room (Nat.le_of_ble_eq_true rfl)) dX2_foresee_38 ⟨Nat.le_of_ble_eq_true rfl, Nat.le_of_ble_eq_true rfl⟩) hD hS hA (fun kr ku H locs hP hD hS => ?_)
      have hP : va_P D vwCl ((cu_mw C o r q 0 (nI N) mn K) ++ cu_kx C (kr, ku) mn K) H := hP
      have hD : va_D A ((cu_mw C o r q 0 (nI N) mn K) ++ cu_kx C (kr, ku) mn K) := hD
      refine lv_astore_n (lv' := [(3, .ref kr), (0, .ref o), (1, .int (nI t)), (2, .int v2)]) hx hb dX2_foresee_41 rfl hl (by decide) rfl (fun ls hl => ?_)
      refine lv_aload_n hx hb dX2_foresee_42 rfl (lv_at hl 1 rfl) ?_
      refine lv_bipush (v := 6) hx hb dX2_foresee_43 (by decide) ?_
      have sp := cu_sp.pre (w := (cu_mw C o r q 0 (nI N) mn K)) (w' := (cu_mw C o r q 0 (nI N) mn K)) (Y := cu_kx C (kr, ku) mn K) rfl
      refine cu_callI (va_runV (As := [.int 6]) (rest := []) ⟨hx, hb, hml, hown, hts⟩ ((m_X2_all l D C o r q 0 N hN mn K 6 (by decide)) H.size) (cwV 1 hts gX2_foresee_X2_all rfl rfl rfl (by decide +kernel) ⟨Nat.le_of_ble_eq_true rfl, Nat.le_of_ble_eq_true rfl⟩) (cu_preV (ci := 2) sp hG hP hD rfl rfl) rfl rfl hl.1 rfl (lv_room (Nat.le_of_ble_eq_true rfl)) dX2_foresee_45 ⟨Nat.le_of_ble_eq_true rfl, Nat.le_of_ble_eq_true rfl⟩) sp hP hD hS hA (fun H locs hP hD hS => ?_)
      have hP : va_P D vwCl ((cu_mw C o r q 0 (nI N) mn K) ++ cu_kx C (kr, ku) mn K) H := hP
      have hD : va_D A ((cu_mw C o r q 0 (nI N) mn K) ++ cu_kx C (kr, ku) mn K) := hD
      refine lv_istore (lv' := [(4, .int (k_sum (fun c => K c 6) N)), (3, .ref kr), (0, .ref o), (1, .int (nI t)), (2, .int v2)]) hx hb dX2_foresee_48 hl (by decide) rfl (fun ls hl => ?_)
      refine lv_aload_n hx hb dX2_foresee_50 rfl (lv_at hl 2 rfl) ?_
      refine lv_bipush (v := 7) hx hb dX2_foresee_51 (by decide) ?_
      have sp := cu_sp.pre (w := (cu_mw C o r q 0 (nI N) mn K)) (w' := (cu_mw C o r q 0 (nI N) mn K)) (Y := cu_kx C (kr, ku) mn K) rfl
      refine cu_callI (va_runV (As := [.int 7]) (rest := []) ⟨hx, hb, hml, hown, hts⟩ ((m_X2_all l D C o r q 0 N hN mn K 7 (by decide)) H.size) (cwV 1 hts gX2_foresee_X2_all rfl rfl rfl (by decide +kernel) ⟨Nat.le_of_ble_eq_true rfl, Nat.le_of_ble_eq_true rfl⟩) (cu_preV (ci := 2) sp hG hP hD rfl rfl) rfl rfl hl.1 rfl (lv_room (Nat.le_of_ble_eq_true rfl)) dX2_foresee_53 ⟨Nat.le_of_ble_eq_true rfl, Nat.le_of_ble_eq_true rfl⟩) sp hP hD hS hA (fun H locs hP hD hS => ?_)
      have hP : va_P D vwCl ((cu_mw C o r q 0 (nI N) mn K) ++ cu_kx C (kr, ku) mn K) H := hP
      have hD : va_D A ((cu_mw C o r q 0 (nI N) mn K) ++ cu_kx C (kr, ku) mn K) := hD
      refine lv_istore (lv' := [(5, .int (k_sum (fun c => K c 7) N)), (4, .int (k_sum (fun c => K c 6) N)), (3, .ref kr), (0, .ref o), (1, .int (nI t)), (2, .int v2)]) hx hb dX2_foresee_56 hl (by decide) rfl (fun ls hl => ?_)
      refine lv_aload_n hx hb dX2_foresee_58 rfl (lv_at hl 3 rfl) ?_
      refine lv_iload_n hx hb dX2_foresee_59 rfl (lv_at hl 4 rfl) ?_
      have sp := cu_sp.pre (w := (cu_mw C o r q 0 (nI N) mn K)) (w' := (cu_mw C o r q 0 (nI N) (mn + nI t) (k_at N mn K t))) (Y := cu_kx C (kr, ku) mn K) cu_mw_fst
      refine cu_callV (va_runV (As := [.int (nI t)]) (rest := []) ⟨hx, hb, hml, hown, hts⟩ ((m_X2_minutesOn l D C o r q 0 N hN mn K hok t ht) H.size) (cwV 1 hts gX2_foresee_X2_minutesOn rfl rfl rfl (by decide +kernel) ⟨Nat.le_of_ble_eq_true rfl, Nat.le_of_ble_eq_true rfl⟩) (cu_preV (ci := 2) sp hG hP hD rfl rfl) rfl rfl hl.1 rfl (lv_room (Nat.le_of_ble_eq_true rfl)) dX2_foresee_60 ⟨Nat.le_of_ble_eq_true rfl, Nat.le_of_ble_eq_true rfl⟩) sp hP hD hS hA (fun H locs hP hD hS => ?_)
      have hP : va_P D vwCl ((cu_mw C o r q 0 (nI N) (mn + nI t) (k_at N mn K t)) ++ cu_kx C (kr, ku) mn K) H := hP
      have hD : va_D A ((cu_mw C o r q 0 (nI N) (mn + nI t) (k_at N mn K t)) ++ cu_kx C (kr, ku) mn K) := hD
      refine lv_iload_n hx hb dX2_foresee_63 rfl (lv_at hl 5 rfl) ?_
      refine lv_if_ne (tgt := 79) hx hb dX2_foresee_64 (by decide) (fun c_64 => ?_) (fun c_64 => ?_)
      · refine lv_iload_n hx hb dX2_foresee_79 rfl (lv_at hl 5 rfl) ?_
        refine lv_iconst (v := 1) hx hb dX2_foresee_80 (by decide) ?_
        refine lv_icmp_ne (tgt := 96) hx hb dX2_foresee_81 (by decide) (fun c_81 => ?_) (fun c_81 => ?_)
        · refine lv_aload_n hx hb dX2_foresee_96 rfl (lv_at hl 3 rfl) ?_
          refine lv_iload_n hx hb dX2_foresee_97 rfl (lv_at hl 5 rfl) ?_
          refine lv_iconst (v := 2) hx hb dX2_foresee_98 (by decide) ?_
          refine lv_icmp_ne (tgt := 106) hx hb dX2_foresee_99 (by decide) (fun c_99 => ?_) (fun c_99 => ?_)
          · refine lv_bipush (v := 7) hx hb dX2_foresee_106 (by decide) ?_
            have sp := cu_sp.pre (w := (cu_mw C o r q 0 (nI N) (mn + nI t) (k_at N mn K t))) (w' := (cu_mw C o r q 0 (nI N) (mn + nI t) (k_at N mn K t))) (Y := cu_kx C (kr, ku) mn K) rfl
            refine cu_callI (va_runV (As := [.int 7]) (rest := []) ⟨hx, hb, hml, hown, hts⟩ ((m_X2_counted l D C o r q 0 N hN (mn + nI t) (k_at N mn K t) (k_at_ok hok t) (k_mt hm hm2 ht) 7 (by decide) 7 rfl) H.size) (cwV 1 hts gX2_foresee_X2_counted rfl rfl rfl (by decide +kernel) ⟨Nat.le_of_ble_eq_true rfl, Nat.le_of_ble_eq_true rfl⟩) (cu_preV (ci := 2) sp hG hP hD rfl rfl) rfl rfl hl.1 rfl (lv_room (Nat.le_of_ble_eq_true rfl)) dX2_foresee_108 ⟨Nat.le_of_ble_eq_true rfl, Nat.le_of_ble_eq_true rfl⟩) sp hP hD hS hA (fun H locs hP hD hS => ?_)
            have hP : va_P D vwCl ((cu_mw C o r q 0 (nI N) (mn + nI t) (k_at N mn K t)) ++ cu_kx C (kr, ku) mn K) H := hP
            have hD : va_D A ((cu_mw C o r q 0 (nI N) (mn + nI t) (k_at N mn K t)) ++ cu_kx C (kr, ku) mn K) := hD
            refine lv_istore (lv' := [(6, .int (k_tally N (k_at N mn K t) (mn + nI t) 7)), (5, .int (k_sum (fun c => K c 7) N)), (4, .int (k_sum (fun c => K c 6) N)), (3, .ref kr), (0, .ref o), (1, .int (nI t)), (2, .int v2)]) hx hb dX2_foresee_111 hl (by decide) rfl (fun ls hl => ?_)
            refine lv_aload_n hx hb dX2_foresee_113 rfl (lv_at hl 4 rfl) ?_
            refine lv_aload_n hx hb dX2_foresee_114 rfl (lv_at hl 3 rfl) ?_
            have sp := cu_sp.all (W0 := ((cu_mw C o r q 0 (nI N) (mn + nI t) (k_at N mn K t)) ++ cu_kx C (kr, ku) mn K)) (W1 := ((cu_mw C o r q 0 (nI N) mn K) ++ cu_kx C (kr, ku) mn K)) cu_mwx_fst
            refine cu_callV (va_runV (As := [.ref kr]) (rest := []) ⟨hx, hb, hml, hown, hts⟩ ((m_X2_bringBack l D C o r q 0 (nI N) (mn + nI t) (k_at N mn K t) (kr, ku) mn K) H.size) (cwV 1 hts gX2_foresee_X2_bringBack rfl rfl rfl (by decide +kernel) ⟨Nat.le_of_ble_eq_true rfl, Nat.le_of_ble_eq_true rfl⟩) (cu_preV (ci := 2) sp hG hP hD rfl rfl) rfl rfl hl.1 rfl (lv_room (Nat.le_of_ble_eq_true rfl)) dX2_foresee_115 ⟨Nat.le_of_ble_eq_true rfl, Nat.le_of_ble_eq_true rfl⟩) sp hP hD hS hA (fun H locs hP hD hS => ?_)
            have hP : va_P D vwCl ((cu_mw C o r q 0 (nI N) mn K) ++ cu_kx C (kr, ku) mn K) H := hP
            have hD : va_D A ((cu_mw C o r q 0 (nI N) mn K) ++ cu_kx C (kr, ku) mn K) := hD
            refine lv_iload hx hb dX2_foresee_118 (lv_at hl 0 rfl) ?_
            exact fin _ _ _ _ _ rfl (by have e : k_cF (nI t) v2 = 0 := (by simp (decide := true) only [k_cF, if_neg c_13, if_neg c_28, if_neg c_64, if_neg c_81, if_neg c_99]); rw [e, if_pos rfl, hcl9]; simp only [k_foreM, if_neg c_13, if_neg c_28, if_neg c_64, if_neg c_81, if_neg c_99]) (by have e : k_cF (nI t) v2 = 0 := (by simp (decide := true) only [k_cF, if_neg c_13, if_neg c_28, if_neg c_64, if_neg c_81, if_neg c_99]); rw [e]; exact cu_P_pre hP) hS dX2_foresee_120
          · refine lv_iconst (v := 3) hx hb dX2_foresee_102 (by decide) ?_
            refine lv_goto (tgt := 108) hx hb dX2_foresee_103 (by decide) ?_
            have sp := cu_sp.pre (w := (cu_mw C o r q 0 (nI N) (mn + nI t) (k_at N mn K t))) (w' := (cu_mw C o r q 0 (nI N) (mn + nI t) (k_at N mn K t))) (Y := cu_kx C (kr, ku) mn K) rfl
            refine cu_callI (va_runV (As := [.int 3]) (rest := []) ⟨hx, hb, hml, hown, hts⟩ ((m_X2_counted l D C o r q 0 N hN (mn + nI t) (k_at N mn K t) (k_at_ok hok t) (k_mt hm hm2 ht) 3 (by decide) 3 rfl) H.size) (cwV 1 hts gX2_foresee_X2_counted rfl rfl rfl (by decide +kernel) ⟨Nat.le_of_ble_eq_true rfl, Nat.le_of_ble_eq_true rfl⟩) (cu_preV (ci := 2) sp hG hP hD rfl rfl) rfl rfl hl.1 rfl (lv_room (Nat.le_of_ble_eq_true rfl)) dX2_foresee_108 ⟨Nat.le_of_ble_eq_true rfl, Nat.le_of_ble_eq_true rfl⟩) sp hP hD hS hA (fun H locs hP hD hS => ?_)
            have hP : va_P D vwCl ((cu_mw C o r q 0 (nI N) (mn + nI t) (k_at N mn K t)) ++ cu_kx C (kr, ku) mn K) H := hP
            have hD : va_D A ((cu_mw C o r q 0 (nI N) (mn + nI t) (k_at N mn K t)) ++ cu_kx C (kr, ku) mn K) := hD
            refine lv_istore (lv' := [(6, .int (k_tally N (k_at N mn K t) (mn + nI t) 3)), (5, .int (k_sum (fun c => K c 7) N)), (4, .int (k_sum (fun c => K c 6) N)), (3, .ref kr), (0, .ref o), (1, .int (nI t)), (2, .int v2)]) hx hb dX2_foresee_111 hl (by decide) rfl (fun ls hl => ?_)
            refine lv_aload_n hx hb dX2_foresee_113 rfl (lv_at hl 4 rfl) ?_
            refine lv_aload_n hx hb dX2_foresee_114 rfl (lv_at hl 3 rfl) ?_
            have sp := cu_sp.all (W0 := ((cu_mw C o r q 0 (nI N) (mn + nI t) (k_at N mn K t)) ++ cu_kx C (kr, ku) mn K)) (W1 := ((cu_mw C o r q 0 (nI N) mn K) ++ cu_kx C (kr, ku) mn K)) cu_mwx_fst
            refine cu_callV (va_runV (As := [.ref kr]) (rest := []) ⟨hx, hb, hml, hown, hts⟩ ((m_X2_bringBack l D C o r q 0 (nI N) (mn + nI t) (k_at N mn K t) (kr, ku) mn K) H.size) (cwV 1 hts gX2_foresee_X2_bringBack rfl rfl rfl (by decide +kernel) ⟨Nat.le_of_ble_eq_true rfl, Nat.le_of_ble_eq_true rfl⟩) (cu_preV (ci := 2) sp hG hP hD rfl rfl) rfl rfl hl.1 rfl (lv_room (Nat.le_of_ble_eq_true rfl)) dX2_foresee_115 ⟨Nat.le_of_ble_eq_true rfl, Nat.le_of_ble_eq_true rfl⟩) sp hP hD hS hA (fun H locs hP hD hS => ?_)
            have hP : va_P D vwCl ((cu_mw C o r q 0 (nI N) mn K) ++ cu_kx C (kr, ku) mn K) H := hP
            have hD : va_D A ((cu_mw C o r q 0 (nI N) mn K) ++ cu_kx C (kr, ku) mn K) := hD
            refine lv_iload hx hb dX2_foresee_118 (lv_at hl 0 rfl) ?_
            exact fin _ _ _ _ _ rfl (by have e : k_cF (nI t) v2 = 0 := (by simp (decide := true) only [k_cF, if_neg c_13, if_neg c_28, if_neg c_64, if_neg c_81, if_pos c_99]); rw [e, if_pos rfl, hcl9]; simp only [k_foreM, if_neg c_13, if_neg c_28, if_neg c_64, if_neg c_81, if_pos c_99]) (by have e : k_cF (nI t) v2 = 0 := (by simp (decide := true) only [k_cF, if_neg c_13, if_neg c_28, if_neg c_64, if_neg c_81, if_pos c_99]); rw [e]; exact cu_P_pre hP) hS dX2_foresee_120
        · refine lv_aload_n hx hb dX2_foresee_84 rfl (lv_at hl 3 rfl) ?_
          refine lv_bipush (v := 7) hx hb dX2_foresee_85 (by decide) ?_
          have sp := cu_sp.pre (w := (cu_mw C o r q 0 (nI N) (mn + nI t) (k_at N mn K t))) (w' := (cu_mw C o r q 0 (nI N) (mn + nI t) (k_at N mn K t))) (Y := cu_kx C (kr, ku) mn K) rfl
          refine cu_callI (va_runV (As := [.int 7]) (rest := []) ⟨hx, hb, hml, hown, hts⟩ ((m_X2_all l D C o r q 0 N hN (mn + nI t) (k_at N mn K t) 7 (by decide)) H.size) (cwV 1 hts gX2_foresee_X2_all rfl rfl rfl (by decide +kernel) ⟨Nat.le_of_ble_eq_true rfl, Nat.le_of_ble_eq_true rfl⟩) (cu_preV (ci := 2) sp hG hP hD rfl rfl) rfl rfl hl.1 rfl (lv_room (Nat.le_of_ble_eq_true rfl)) dX2_foresee_87 ⟨Nat.le_of_ble_eq_true rfl, Nat.le_of_ble_eq_true rfl⟩) sp hP hD hS hA (fun H locs hP hD hS => ?_)
          have hP : va_P D vwCl ((cu_mw C o r q 0 (nI N) (mn + nI t) (k_at N mn K t)) ++ cu_kx C (kr, ku) mn K) H := hP
          have hD : va_D A ((cu_mw C o r q 0 (nI N) (mn + nI t) (k_at N mn K t)) ++ cu_kx C (kr, ku) mn K) := hD
          refine lv_iload hx hb dX2_foresee_90 (lv_at hl 0 rfl) ?_
          refine lv_isub hx hb dX2_foresee_92 ?_
          refine lv_goto (tgt := 111) hx hb dX2_foresee_93 (by decide) ?_
          refine lv_istore (lv' := [(6, .int ((k_sum (fun c => (k_at N mn K t) c 7) N) - (k_sum (fun c => K c 7) N))), (5, .int (k_sum (fun c => K c 7) N)), (4, .int (k_sum (fun c => K c 6) N)), (3, .ref kr), (0, .ref o), (1, .int (nI t)), (2, .int v2)]) hx hb dX2_foresee_111 hl (by decide) rfl (fun ls hl => ?_)
          refine lv_aload_n hx hb dX2_foresee_113 rfl (lv_at hl 4 rfl) ?_
          refine lv_aload_n hx hb dX2_foresee_114 rfl (lv_at hl 3 rfl) ?_
          have sp := cu_sp.all (W0 := ((cu_mw C o r q 0 (nI N) (mn + nI t) (k_at N mn K t)) ++ cu_kx C (kr, ku) mn K)) (W1 := ((cu_mw C o r q 0 (nI N) mn K) ++ cu_kx C (kr, ku) mn K)) cu_mwx_fst
          refine cu_callV (va_runV (As := [.ref kr]) (rest := []) ⟨hx, hb, hml, hown, hts⟩ ((m_X2_bringBack l D C o r q 0 (nI N) (mn + nI t) (k_at N mn K t) (kr, ku) mn K) H.size) (cwV 1 hts gX2_foresee_X2_bringBack rfl rfl rfl (by decide +kernel) ⟨Nat.le_of_ble_eq_true rfl, Nat.le_of_ble_eq_true rfl⟩) (cu_preV (ci := 2) sp hG hP hD rfl rfl) rfl rfl hl.1 rfl (lv_room (Nat.le_of_ble_eq_true rfl)) dX2_foresee_115 ⟨Nat.le_of_ble_eq_true rfl, Nat.le_of_ble_eq_true rfl⟩) sp hP hD hS hA (fun H locs hP hD hS => ?_)
          have hP : va_P D vwCl ((cu_mw C o r q 0 (nI N) mn K) ++ cu_kx C (kr, ku) mn K) H := hP
          have hD : va_D A ((cu_mw C o r q 0 (nI N) mn K) ++ cu_kx C (kr, ku) mn K) := hD
          refine lv_iload hx hb dX2_foresee_118 (lv_at hl 0 rfl) ?_
          exact fin _ _ _ _ _ rfl (by have e : k_cF (nI t) v2 = 0 := (by simp (decide := true) only [k_cF, if_neg c_13, if_neg c_28, if_neg c_64, if_pos c_81]); rw [e, if_pos rfl, hcl9]; simp only [k_foreM, if_neg c_13, if_neg c_28, if_neg c_64, if_pos c_81]) (by have e : k_cF (nI t) v2 = 0 := (by simp (decide := true) only [k_cF, if_neg c_13, if_neg c_28, if_neg c_64, if_pos c_81]); rw [e]; exact cu_P_pre hP) hS dX2_foresee_120
      · refine lv_aload_n hx hb dX2_foresee_67 rfl (lv_at hl 3 rfl) ?_
        refine lv_bipush (v := 6) hx hb dX2_foresee_68 (by decide) ?_
        have sp := cu_sp.pre (w := (cu_mw C o r q 0 (nI N) (mn + nI t) (k_at N mn K t))) (w' := (cu_mw C o r q 0 (nI N) (mn + nI t) (k_at N mn K t))) (Y := cu_kx C (kr, ku) mn K) rfl
        refine cu_callI (va_runV (As := [.int 6]) (rest := []) ⟨hx, hb, hml, hown, hts⟩ ((m_X2_all l D C o r q 0 N hN (mn + nI t) (k_at N mn K t) 6 (by decide)) H.size) (cwV 1 hts gX2_foresee_X2_all rfl rfl rfl (by decide +kernel) ⟨Nat.le_of_ble_eq_true rfl, Nat.le_of_ble_eq_true rfl⟩) (cu_preV (ci := 2) sp hG hP hD rfl rfl) rfl rfl hl.1 rfl (lv_room (Nat.le_of_ble_eq_true rfl)) dX2_foresee_70 ⟨Nat.le_of_ble_eq_true rfl, Nat.le_of_ble_eq_true rfl⟩) sp hP hD hS hA (fun H locs hP hD hS => ?_)
        have hP : va_P D vwCl ((cu_mw C o r q 0 (nI N) (mn + nI t) (k_at N mn K t)) ++ cu_kx C (kr, ku) mn K) H := hP
        have hD : va_D A ((cu_mw C o r q 0 (nI N) (mn + nI t) (k_at N mn K t)) ++ cu_kx C (kr, ku) mn K) := hD
        refine lv_iload hx hb dX2_foresee_73 (lv_at hl 1 rfl) ?_
        refine lv_isub hx hb dX2_foresee_75 ?_
        refine lv_goto (tgt := 111) hx hb dX2_foresee_76 (by decide) ?_
        refine lv_istore (lv' := [(6, .int ((k_sum (fun c => (k_at N mn K t) c 6) N) - (k_sum (fun c => K c 6) N))), (5, .int (k_sum (fun c => K c 7) N)), (4, .int (k_sum (fun c => K c 6) N)), (3, .ref kr), (0, .ref o), (1, .int (nI t)), (2, .int v2)]) hx hb dX2_foresee_111 hl (by decide) rfl (fun ls hl => ?_)
        refine lv_aload_n hx hb dX2_foresee_113 rfl (lv_at hl 4 rfl) ?_
        refine lv_aload_n hx hb dX2_foresee_114 rfl (lv_at hl 3 rfl) ?_
        have sp := cu_sp.all (W0 := ((cu_mw C o r q 0 (nI N) (mn + nI t) (k_at N mn K t)) ++ cu_kx C (kr, ku) mn K)) (W1 := ((cu_mw C o r q 0 (nI N) mn K) ++ cu_kx C (kr, ku) mn K)) cu_mwx_fst
        refine cu_callV (va_runV (As := [.ref kr]) (rest := []) ⟨hx, hb, hml, hown, hts⟩ ((m_X2_bringBack l D C o r q 0 (nI N) (mn + nI t) (k_at N mn K t) (kr, ku) mn K) H.size) (cwV 1 hts gX2_foresee_X2_bringBack rfl rfl rfl (by decide +kernel) ⟨Nat.le_of_ble_eq_true rfl, Nat.le_of_ble_eq_true rfl⟩) (cu_preV (ci := 2) sp hG hP hD rfl rfl) rfl rfl hl.1 rfl (lv_room (Nat.le_of_ble_eq_true rfl)) dX2_foresee_115 ⟨Nat.le_of_ble_eq_true rfl, Nat.le_of_ble_eq_true rfl⟩) sp hP hD hS hA (fun H locs hP hD hS => ?_)
        have hP : va_P D vwCl ((cu_mw C o r q 0 (nI N) mn K) ++ cu_kx C (kr, ku) mn K) H := hP
        have hD : va_D A ((cu_mw C o r q 0 (nI N) mn K) ++ cu_kx C (kr, ku) mn K) := hD
        refine lv_iload hx hb dX2_foresee_118 (lv_at hl 0 rfl) ?_
        exact fin _ _ _ _ _ rfl (by have e : k_cF (nI t) v2 = 0 := (by simp (decide := true) only [k_cF, if_neg c_13, if_neg c_28, if_pos c_64]); rw [e, if_pos rfl, hcl9]; simp only [k_foreM, if_neg c_13, if_neg c_28, if_pos c_64]) (by have e : k_cF (nI t) v2 = 0 := (by simp (decide := true) only [k_cF, if_neg c_13, if_neg c_28, if_pos c_64]); rw [e]; exact cu_P_pre hP) hS dX2_foresee_120
    · refine lv_aload_n hx hb dX2_foresee_31 rfl (lv_at hl 0 rfl) ?_
      refine lv_iconst (v := 2) hx hb dX2_foresee_32 (by decide) ?_
      have sp := cu_sp.all (W0 := (cu_mw C o r q 0 (nI N) mn K)) (W1 := (cu_mw C o r q 2 (nI N) mn K)) cu_mw_fst
      refine cu_callI (va_runV (As := [.int 2]) (rest := []) ⟨hx, hb, hml, hown, hts⟩ ((m_X2_fail l D C o r q 0 N hN mn K 2) H.size) (cwV 1 hts gX2_foresee_X2_fail rfl rfl rfl (by decide +kernel) ⟨Nat.le_of_ble_eq_true rfl, Nat.le_of_ble_eq_true rfl⟩) (cu_preV (ci := 2) sp hG hP hD rfl rfl) rfl rfl hl.1 rfl (lv_room (Nat.le_of_ble_eq_true rfl)) dX2_foresee_33 ⟨Nat.le_of_ble_eq_true rfl, Nat.le_of_ble_eq_true rfl⟩) sp hP hD hS hA (fun H locs hP hD hS => ?_)
      have hP : va_P D vwCl (cu_mw C o r q 2 (nI N) mn K) H := hP
      have hD : va_D A (cu_mw C o r q 2 (nI N) mn K) := hD
      refine W.widen (k := 3) (n := 143) (Nat.le_of_ble_eq_true rfl) (Nat.le_of_ble_eq_true rfl) ?_
      exact fin _ _ _ _ _ rfl (by have e : k_cF v1 v2 = 2 := (by simp (decide := true) only [k_cF, if_neg c_13, if_pos c_28]); rw [e, if_neg (by decide)]) (by have e : k_cF v1 v2 = 2 := (by simp (decide := true) only [k_cF, if_neg c_13, if_pos c_28]); rw [e]; exact hP) hS dX2_foresee_36
  · refine lv_aload_n hx hb dX2_foresee_16 rfl (lv_at hl 0 rfl) ?_
    refine lv_iconst (v := 1) hx hb dX2_foresee_17 (by decide) ?_
    have sp := cu_sp.all (W0 := (cu_mw C o r q 0 (nI N) mn K)) (W1 := (cu_mw C o r q 1 (nI N) mn K)) cu_mw_fst
    refine cu_callI (va_runV (As := [.int 1]) (rest := []) ⟨hx, hb, hml, hown, hts⟩ ((m_X2_fail l D C o r q 0 N hN mn K 1) H.size) (cwV 1 hts gX2_foresee_X2_fail rfl rfl rfl (by decide +kernel) ⟨Nat.le_of_ble_eq_true rfl, Nat.le_of_ble_eq_true rfl⟩) (cu_preV (ci := 2) sp hG hP hD rfl rfl) rfl rfl hl.1 rfl (lv_room (Nat.le_of_ble_eq_true rfl)) dX2_foresee_18 ⟨Nat.le_of_ble_eq_true rfl, Nat.le_of_ble_eq_true rfl⟩) sp hP hD hS hA (fun H locs hP hD hS => ?_)
    have hP : va_P D vwCl (cu_mw C o r q 1 (nI N) mn K) H := hP
    have hD : va_D A (cu_mw C o r q 1 (nI N) mn K) := hD
    refine W.widen (k := 3) (n := 143) (Nat.le_of_ble_eq_true rfl) (Nat.le_of_ble_eq_true rfl) ?_
    exact fin _ _ _ _ _ rfl (by have e : k_cF v1 v2 = 1 := (by simp (decide := true) only [k_cF, if_pos c_13]); rw [e, if_neg (by decide)]) (by have e : k_cF v1 v2 = 1 := (by simp (decide := true) only [k_cF, if_pos c_13]); rw [e]; exact hP) hS dX2_foresee_21
