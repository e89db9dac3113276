/-! what the model's own methods answer: codes of what is thrown -/
def k_c1 (N : Nat) (v : Int32) : Int32 := if k_isW v 0 (nI N - 1) = 0 then 1 else 0
def k_cG (N : Nat) (v a b s : Int32) : Int32 := if k_isW v 0 (nI N - 1) = 0 then 1 else if k_isW a 20 40 = 0 then 2 else if k_isW b 20 40 = 0 then 2 else if k_isW s (-20) 20 = 0 then 2 else 0
def k_cT (N : Nat) (v t : Int32) : Int32 := if k_isW v 0 (nI N - 1) = 0 then 1 else if k_isW t 0 719 = 0 then 2 else 0
def k_cE (N : Nat) (v t : Int32) : Int32 := if k_isW v 0 (nI N - 1) = 0 then 1 else if k_isW t 0 2 = 0 then 2 else 0
def k_cH (N : Nat) (v f t : Int32) : Int32 := if k_isW v 0 (nI N - 1) = 0 then 1 else if k_isW f (-1) 719 = 0 then 2 else if k_isW t 0 719 = 0 then 2 else if f = -1 then (if t = 0 then 0 else 2) else 0
def k_cR (N : Nat) (v t : Int32) : Int32 := if k_isW v 0 (nI N - 1) = 0 then 1 else if k_isW t 0 10 = 0 then 1 else 0
def k_cY (t : Int32) : Int32 := if k_isW t 0 7 = 0 then 1 else 0
def k_cM (t : Int32) : Int32 := if k_isW t 1 720 = 0 then 1 else 0
def k_cF (t w : Int32) : Int32 := if k_isW t 1 720 = 0 then 1 else if k_isW w 0 3 = 0 then 2 else 0
theorem k_isW_in {x lo hi : Int32} (h : ¬ k_isW x lo hi = 0) : lo.toInt ≤ x.toInt ∧ x.toInt ≤ hi.toInt := by
  unfold k_isW at h
  by_cases h1 : x < lo
  · rw [if_pos h1] at h; exact absurd rfl h
  · rw [if_neg h1] at h
    by_cases h2 : hi < x
    · rw [if_pos h2] at h; exact absurd rfl h
    · rw [i_lt] at h1 h2
      omega
theorem k_isN_in {v : Int32} (n : Nat) (hn : n < 2147483648) (h : ¬ k_isW v 0 (nI n) = 0) : ∃ w : Nat, w < n + 1 ∧ v = nI w := by
  obtain ⟨h1, h2⟩ := k_isW_in h
  have e0 : (0 : Int32).toInt = 0 := by decide
  rw [e0] at h1
  rw [nI_toInt hn] at h2
  obtain ⟨w, hw, e⟩ := nI_of (x := v) (fun z => by rw [i_lt, e0] at z; omega)
  subst e
  rw [nI_toInt hw] at h2
  exact ⟨w, by omega, rfl⟩
theorem k_isM_in {v : Int32} (h : ¬ k_isW v 1 720 = 0) : ∃ t : Nat, 1 ≤ t ∧ t ≤ 720 ∧ v = nI t := by
  obtain ⟨h1, h2⟩ := k_isW_in h
  have e0 : (0 : Int32).toInt = 0 := by decide
  have e1 : (1 : Int32).toInt = 1 := by decide
  have e2 : (720 : Int32).toInt = 720 := by decide
  rw [e1] at h1
  rw [e2] at h2
  obtain ⟨w, hw, e⟩ := nI_of (x := v) (fun z => by rw [i_lt, e0] at z; omega)
  subst e
  rw [nI_toInt hw] at h1 h2
  exact ⟨w, by omega, by omega, rfl⟩
theorem k_b2040 {b : Int32} (h : ¬ k_isW b 20 40 = 0) : ¬ b = 0 := by
  intro z
  rw [z] at h
  exact h rfl
theorem k_isE_in {v : Int32} (h : ¬ k_isW v 0 2 = 0) : v = 0 ∨ v = 1 ∨ v = 2 := by
  obtain ⟨w, hw, rfl⟩ := k_isN_in (v := v) 2 (by decide) h
  have h9 : w = 0 ∨ w = 1 ∨ w = 2 := by omega
  rcases h9 with rfl | rfl | rfl
  · exact Or.inl rfl
  · exact Or.inr (Or.inl rfl)
  · exact Or.inr (Or.inr rfl)
theorem k_nudge_M {K : Nat → Int32} (h : k_ok K) : k_nudge K = if K 5 = 0 then (if K 2 ≤ 0 then 0 else 1) else 0 := by
  obtain ⟨-, -, ⟨h2, -⟩, -⟩ := h
  have e0 : (0 : Int32).toInt = 0 := by decide
  unfold k_nudge
  split
  · by_cases hp : K 2 ≤ (0 : Int32)
    · rw [if_pos hp, if_pos (by rw [i_le, e0] at hp; rw [i_eq, e0]; omega)]
    · rw [if_neg hp, if_neg (fun z => hp (by rw [z]; decide))]
  · rfl

set_option maxHeartbeats 4000000 in
set_option maxRecDepth 100000 in
theorem m_X2_gear (l : Launch) (D : va_G) (C : Nat → ClassId) (o r q : Nat) (th : Int32) (N : Nat) (hN : N ≤ 10) (mn : Int32) (K : Nat → Nat → Int32) (v1 : Int32) (v2 : Int32) (v3 : Int32) (v4 : Int32) : cu_I l D C yX2_gear wsX2_gear { frames := 3, cells := 0, slots := 0, locals := 67 } [.ref o, .int v1, .int v2, .int v3, .int v4] (cu_mw C o r q th (nI N) mn K) (cu_mw C o r q (k_cG N v1 v2 v3 v4) (nI N) mn (if k_cG N v1 v2 v3 v4 = 0 then va_up K v1.toNatClampNeg (upd (upd (upd (K v1.toNatClampNeg) 9 v2) 10 v3) 11 v4) else K)) (if k_cG N v1 v2 v3 v4 = 0 then k_adv (upd (upd (upd (K v1.toNatClampNeg) 9 v2) 10 v3) 11 v4) else 0) 0 0 := by
  refine cu_openI (cc := cX2_gear) (maxL := 5) (ty := .int) (own := RX2) (by decide) rfl rfl (Nat.le_of_ble_eq_true rfl) ?_
  intro p e s m args below meth c A Z H0 ls e0 hx hb hml hts hown hnm hG hP hD hS hA hl fin
  have hK := hG.1
  have hl : lv_has ls 5 [(0, .ref o), (1, .int v1), (2, .int v2), (3, .int v3), (4, .int v4)] := hl
  have hiX2 : ∀ w ∈ wsX20, w ∈ wsX2_gear := by decide +kernel
  refine lv_aload_n hx hb dX2_gear_0 rfl (lv_at hl 0 rfl) ?_
  refine lv_iconst (v := 0) hx hb dX2_gear_1 (by decide) ?_
  refine va_put (D := D) (ci := 2) (v := .int 0) (ty := .int) (C := RX2) (T := TX2) (N := 4) hx hb hts hiX2 tyX2 tyX2_ok nmX2 hown hK hP hD hS 0 rfl rfl 0 (by decide) (hts (.fieldLink RX2 16 "CuckooShopModel" "thrown" "I") (by decide +kernel)) (fun _ h9 => h9) rfl (by decide +kernel) rfl rfl (Nat.le_of_ble_eq_true rfl) dX2_gear_2 (fun H locs hP hD hS => ?_)
  have hP : va_P D vwCl (cu_mw C o r q 0 (nI N) mn K) H := hP
  have hD : va_D A (cu_mw C o r q 0 (nI N) mn K) := hD
  refine lv_aload_n hx hb dX2_gear_5 rfl (lv_at hl 0 rfl) ?_
  refine lv_iload_n hx hb dX2_gear_6 rfl (lv_at hl 1 rfl) ?_
  have sp := cu_sp.all (W0 := (cu_mw C o r q 0 (nI N) mn K)) (W1 := (cu_mw C o r q 0 (nI N) mn K)) rfl
  refine cu_callI (va_runV (As := [.int v1]) (rest := []) ⟨hx, hb, hml, hown, hts⟩ ((m_X2_isClock l D C o r q 0 N hN mn K v1) H.size) (cwV 1 hts gX2_gear_X2_isClock rfl rfl rfl (by decide +kernel) ⟨Nat.le_of_ble_eq_true rfl, Nat.le_of_ble_eq_true rfl⟩) (cu_preV (ci := 2) sp hG hP hD rfl rfl) rfl rfl hl.1 rfl (lv_room (Nat.le_of_ble_eq_true rfl)) dX2_gear_7 ⟨Nat.le_of_ble_eq_true rfl, Nat.le_of_ble_eq_true rfl⟩) sp hP hD hS hA (fun H locs hP hD hS => ?_)
  have hP : va_P D vwCl (cu_mw C o r q 0 (nI N) mn K) H := hP
  have hD : va_D A (cu_mw C o r q 0 (nI N) mn K) := hD
  refine lv_if_ne (tgt := 19) hx hb dX2_gear_10 (by decide) (fun c_10 => ?_) (fun c_10 => ?_)
  · obtain ⟨i, hiN, rfl⟩ := k_isC_in hN c_10
    have hi : i < 10 := by omega
    have hcl9 : (nI i).toNatClampNeg = i := nI_clamp (by omega)
    refine lv_iload_n hx hb dX2_gear_19 rfl (lv_at hl 2 rfl) ?_
    refine lv_bipush (v := 20) hx hb dX2_gear_20 (by decide) ?_
    refine lv_bipush (v := 40) hx hb dX2_gear_22 (by decide) ?_
    have sp := cu_sp.nil (W0 := (cu_mw C o r q 0 (nI N) mn K))
    refine cu_callI (va_runS (As := [.int v2, .int 20, .int 40]) (rest := []) ⟨hx, hb, hml, hown, hts⟩ ((m_X2_isIn l D C v2 20 40) H.size) (va_cwS 3 hts gX2_gear_X2_isIn rfl rfl rfl (by decide +kernel) ⟨Nat.le_of_ble_eq_true rfl, Nat.le_of_ble_eq_true rfl⟩) (cu_preS sp hG hP hD) rfl rfl hl.1 rfl (lv_room (Nat.le_of_ble_eq_true rfl)) dX2_gear_24 ⟨Nat.le_of_ble_eq_true rfl, Nat.le_of_ble_eq_true rfl⟩) sp hP hD hS hA (fun H locs hP hD hS => ?_)
    refine lv_if_eq (tgt := 53) hx hb dX2_gear_27 (by decide) (fun c_27 => ?_) (fun c_27 => ?_)
    · refine lv_aload_n hx hb dX2_gear_53 rfl (lv_at hl 0 rfl) ?_
      refine lv_iconst (v := 2) hx hb dX2_gear_54 (by decide) ?_
      have sp := cu_sp.all (W0 := (cu_mw C o r q 0 (nI N) mn K)) (W1 := (cu_mw C o r q 2 (nI N) mn K)) cu_mw_fst
      refine cu_callI (va_runV (As := [.int 2]) (rest := []) ⟨hx, hb, hml, hown, hts⟩ ((m_X2_fail l D C o r q 0 N hN mn K 2) H.size) (cwV 1 hts gX2_gear_X2_fail rfl rfl rfl (by decide +kernel) ⟨Nat.le_of_ble_eq_true rfl, Nat.le_of_ble_eq_true rfl⟩) (cu_preV (ci := 2) sp hG hP hD rfl rfl) rfl rfl hl.1 rfl (lv_room (Nat.le_of_ble_eq_true rfl)) dX2_gear_55 ⟨Nat.le_of_ble_eq_true rfl, Nat.le_of_ble_eq_true rfl⟩) sp hP hD hS hA (fun H locs hP hD hS => ?_)
      have hP : va_P D vwCl (cu_mw C o r q 2 (nI N) mn K) H := hP
      have hD : va_D A (cu_mw C o r q 2 (nI N) mn K) := hD
      exact fin _ _ _ _ _ rfl (by have e : k_cG N (nI i) v2 v3 v4 = 2 := (by simp (decide := true) only [k_cG, if_neg c_10, if_pos c_27]); rw [e, if_neg (by decide)]) (by have e : k_cG N (nI i) v2 v3 v4 = 2 := (by simp (decide := true) only [k_cG, if_neg c_10, if_pos c_27]); rw [e, if_neg (by decide)]; exact hP) hS dX2_gear_58
    · refine lv_iload_n hx hb dX2_gear_30 rfl (lv_at hl 3 rfl) ?_
      refine lv_bipush (v := 20) hx hb dX2_gear_31 (by decide) ?_
      refine lv_bipush (v := 40) hx hb dX2_gear_33 (by decide) ?_
      have sp := cu_sp.nil (W0 := (cu_mw C o r q 0 (nI N) mn K))
      refine cu_callI (va_runS (As := [.int v3, .int 20, .int 40]) (rest := []) ⟨hx, hb, hml, hown, hts⟩ ((m_X2_isIn l D C v3 20 40) H.size) (va_cwS 3 hts gX2_gear_X2_isIn rfl rfl rfl (by decide +kernel) ⟨Nat.le_of_ble_eq_true rfl, Nat.le_of_ble_eq_true rfl⟩) (cu_preS sp hG hP hD) rfl rfl hl.1 rfl (lv_room (Nat.le_of_ble_eq_true rfl)) dX2_gear_35 ⟨Nat.le_of_ble_eq_true rfl, Nat.le_of_ble_eq_true rfl⟩) sp hP hD hS hA (fun H locs hP hD hS => ?_)
      refine lv_if_eq (tgt := 53) hx hb dX2_gear_38 (by decide) (fun c_38 => ?_) (fun c_38 => ?_)
      · refine lv_aload_n hx hb dX2_gear_53 rfl (lv_at hl 0 rfl) ?_
        refine lv_iconst (v := 2) hx hb dX2_gear_54 (by decide) ?_
        have sp := cu_sp.all (W0 := (cu_mw C o r q 0 (nI N) mn K)) (W1 := (cu_mw C o r q 2 (nI N) mn K)) cu_mw_fst
        refine cu_callI (va_runV (As := [.int 2]) (rest := []) ⟨hx, hb, hml, hown, hts⟩ ((m_X2_fail l D C o r q 0 N hN mn K 2) H.size) (cwV 1 hts gX2_gear_X2_fail rfl rfl rfl (by decide +kernel) ⟨Nat.le_of_ble_eq_true rfl, Nat.le_of_ble_eq_true rfl⟩) (cu_preV (ci := 2) sp hG hP hD rfl rfl) rfl rfl hl.1 rfl (lv_room (Nat.le_of_ble_eq_true rfl)) dX2_gear_55 ⟨Nat.le_of_ble_eq_true rfl, Nat.le_of_ble_eq_true rfl⟩) sp hP hD hS hA (fun H locs hP hD hS => ?_)
        have hP : va_P D vwCl (cu_mw C o r q 2 (nI N) mn K) H := hP
        have hD : va_D A (cu_mw C o r q 2 (nI N) mn K) := hD
        exact fin _ _ _ _ _ rfl (by have e : k_cG N (nI i) v2 v3 v4 = 2 := (by simp (decide := true) only [k_cG, if_neg c_10, if_neg c_27, if_pos c_38]); rw [e, if_neg (by decide)]) (by have e : k_cG N (nI i) v2 v3 v4 = 2 := (by simp (decide := true) only [k_cG, if_neg c_10, if_neg c_27, if_pos c_38]); rw [e, if_neg (by decide)]; exact hP) hS dX2_gear_58
      · refine lv_iload hx hb dX2_gear_41 (lv_at hl 4 rfl) ?_
        refine lv_bipush (v := -20) hx hb dX2_gear_43 (by decide) ?_
        refine lv_bipush (v := 20) hx hb dX2_gear_45 (by decide) ?_
        have sp := cu_sp.nil (W0 := (cu_mw C o r q 0 (nI N) mn K))
        refine cu_callI (va_runS (As := [.int v4, .int (-20), .int 20]) (rest := []) ⟨hx, hb, hml, hown, hts⟩ ((m_X2_isIn l D C v4 (-20) 20) H.size) (va_cwS 3 hts gX2_gear_X2_isIn rfl rfl rfl (by decide +kernel) ⟨Nat.le_of_ble_eq_true rfl, Nat.le_of_ble_eq_true rfl⟩) (cu_preS sp hG hP hD) rfl rfl hl.1 rfl (lv_room (Nat.le_of_ble_eq_true rfl)) dX2_gear_47 ⟨Nat.le_of_ble_eq_true rfl, Nat.le_of_ble_eq_true rfl⟩) sp hP hD hS hA (fun H locs hP hD hS => ?_)
        refine lv_if_ne (tgt := 59) hx hb dX2_gear_50 (by decide) (fun c_50 => ?_) (fun c_50 => ?_)
        · refine lv_aload_n hx hb dX2_gear_59 rfl (lv_at hl 0 rfl) ?_
          refine lv_iload_n hx hb dX2_gear_60 rfl (lv_at hl 1 rfl) ?_
          refine lv_bipush (v := 9) hx hb dX2_gear_61 (by decide) ?_
          refine lv_iload_n hx hb dX2_gear_63 rfl (lv_at hl 2 rfl) ?_
          have sp := cu_sp.all (W0 := (cu_mw C o r q 0 (nI N) mn K)) (W1 := (cu_mw C o r q 0 (nI N) mn (va_up K i (upd (K i) 9 v2)))) cu_mw_fst
          refine cu_callV (va_runV (As := [.int (nI i), .int 9, .int v2]) (rest := []) ⟨hx, hb, hml, hown, hts⟩ ((m_X2_put l D C o r q 0 N hN mn K i 9 hi (by decide) v2 (va_up K i (upd (K i) 9 v2)) rfl) H.size) (cwV 3 hts gX2_gear_X2_put rfl rfl rfl (by decide +kernel) ⟨Nat.le_of_ble_eq_true rfl, Nat.le_of_ble_eq_true rfl⟩) (cu_preV (ci := 2) sp hG hP hD rfl rfl) rfl rfl hl.1 rfl (lv_room (Nat.le_of_ble_eq_true rfl)) dX2_gear_64 ⟨Nat.le_of_ble_eq_true rfl, Nat.le_of_ble_eq_true rfl⟩) sp hP hD hS hA (fun H locs hP hD hS => ?_)
          have hP : va_P D vwCl (cu_mw C o r q 0 (nI N) mn (va_up K i (upd (K i) 9 v2))) H := hP
          have hD : va_D A (cu_mw C o r q 0 (nI N) mn (va_up K i (upd (K i) 9 v2))) := hD
          refine lv_aload_n hx hb dX2_gear_67 rfl (lv_at hl 0 rfl) ?_
          refine lv_iload_n hx hb dX2_gear_68 rfl (lv_at hl 1 rfl) ?_
          refine lv_bipush (v := 10) hx hb dX2_gear_69 (by decide) ?_
          refine lv_iload_n hx hb dX2_gear_71 rfl (lv_at hl 3 rfl) ?_
          have sp := cu_sp.all (W0 := (cu_mw C o r q 0 (nI N) mn (va_up K i (upd (K i) 9 v2)))) (W1 := (cu_mw C o r q 0 (nI N) mn (va_up K i (upd (upd (K i) 9 v2) 10 v3)))) cu_mw_fst
          refine cu_callV (va_runV (As := [.int (nI i), .int 10, .int v3]) (rest := []) ⟨hx, hb, hml, hown, hts⟩ ((m_X2_put l D C o r q 0 N hN mn (va_up K i (upd (K i) 9 v2)) i 10 hi (by decide) v3 (va_up K i (upd (upd (K i) 9 v2) 10 v3)) (by rw [va_up_self, bx_uu])) H.size) (cwV 3 hts gX2_gear_X2_put rfl rfl rfl (by decide +kernel) ⟨Nat.le_of_ble_eq_true rfl, Nat.le_of_ble_eq_true rfl⟩) (cu_preV (ci := 2) sp hG hP hD rfl rfl) rfl rfl hl.1 rfl (lv_room (Nat.le_of_ble_eq_true rfl)) dX2_gear_72 ⟨Nat.le_of_ble_eq_true rfl, Nat.le_of_ble_eq_true rfl⟩) sp hP hD hS hA (fun H locs hP hD hS => ?_)
          have hP : va_P D vwCl (cu_mw C o r q 0 (nI N) mn (va_up K i (upd (upd (K i) 9 v2) 10 v3))) H := hP
          have hD : va_D A (cu_mw C o r q 0 (nI N) mn (va_up K i (upd (upd (K i) 9 v2) 10 v3))) := hD
          refine lv_aload_n hx hb dX2_gear_75 rfl (lv_at hl 0 rfl) ?_
          refine lv_iload_n hx hb dX2_gear_76 rfl (lv_at hl 1 rfl) ?_
          refine lv_bipush (v := 11) hx hb dX2_gear_77 (by decide) ?_
          refine lv_iload hx hb dX2_gear_79 (lv_at hl 4 rfl) ?_
          have sp := cu_sp.all (W0 := (cu_mw C o r q 0 (nI N) mn (va_up K i (upd (upd (K i) 9 v2) 10 v3)))) (W1 := (cu_mw C o r q 0 (nI N) mn (va_up K i (upd (upd (upd (K i) 9 v2) 10 v3) 11 v4)))) cu_mw_fst
          refine cu_callV (va_runV (As := [.int (nI i), .int 11, .int v4]) (rest := []) ⟨hx, hb, hml, hown, hts⟩ ((m_X2_put l D C o r q 0 N hN mn (va_up K i (upd (upd (K i) 9 v2) 10 v3)) i 11 hi (by decide) v4 (va_up K i (upd (upd (upd (K i) 9 v2) 10 v3) 11 v4)) (by rw [va_up_self, bx_uu])) H.size) (cwV 3 hts gX2_gear_X2_put rfl rfl rfl (by decide +kernel) ⟨Nat.le_of_ble_eq_true rfl, Nat.le_of_ble_eq_true rfl⟩) (cu_preV (ci := 2) sp hG hP hD rfl rfl) rfl rfl hl.1 rfl (lv_room (Nat.le_of_ble_eq_true rfl)) dX2_gear_81 ⟨Nat.le_of_ble_eq_true rfl, Nat.le_of_ble_eq_true rfl⟩) sp hP hD hS hA (fun H locs hP hD hS => ?_)
          have hP : va_P D vwCl (cu_mw C o r q 0 (nI N) mn (va_up K i (upd (upd (upd (K i) 9 v2) 10 v3) 11 v4))) H := hP
          have hD : va_D A (cu_mw C o r q 0 (nI N) mn (va_up K i (upd (upd (upd (K i) 9 v2) 10 v3) 11 v4))) := hD
          refine lv_aload_n hx hb dX2_gear_84 rfl (lv_at hl 0 rfl) ?_
          refine lv_iload_n hx hb dX2_gear_85 rfl (lv_at hl 1 rfl) ?_
          have sp := cu_sp.all (W0 := (cu_mw C o r q 0 (nI N) mn (va_up K i (upd (upd (upd (K i) 9 v2) 10 v3) 11 v4)))) (W1 := (cu_mw C o r q 0 (nI N) mn (va_up K i (upd (upd (upd (K i) 9 v2) 10 v3) 11 v4)))) rfl
          refine cu_callI (va_runV (As := [.int (nI i)]) (rest := []) ⟨hx, hb, hml, hown, hts⟩ ((m_X2_advance_ l D C o r q 0 N hN mn (va_up K i (upd (upd (upd (K i) 9 v2) 10 v3) 11 v4)) i hi (upd (upd (upd (K i) 9 v2) 10 v3) 11 v4) (va_up_self K i (upd (upd (upd (K i) 9 v2) 10 v3) 11 v4))  (k_b2040 c_38)) H.size) (cwV 1 hts gX2_gear_X2_advance_ rfl rfl rfl (by decide +kernel) ⟨Nat.le_of_ble_eq_true rfl, Nat.le_of_ble_eq_true rfl⟩) (cu_preV (ci := 2) sp hG hP hD rfl rfl) rfl rfl hl.1 rfl (lv_room (Nat.le_of_ble_eq_true rfl)) dX2_gear_86 ⟨Nat.le_of_ble_eq_true rfl, Nat.le_of_ble_eq_true rfl⟩) sp hP hD hS hA (fun H locs hP hD hS => ?_)
          have hP : va_P D vwCl (cu_mw C o r q 0 (nI N) mn (va_up K i (upd (upd (upd (K i) 9 v2) 10 v3) 11 v4))) H := hP
          have hD : va_D A (cu_mw C o r q 0 (nI N) mn (va_up K i (upd (upd (upd (K i) 9 v2) 10 v3) 11 v4))) := hD
          exact fin _ _ _ _ _ rfl (by have e : k_cG N (nI i) v2 v3 v4 = 0 := (by simp (decide := true) only [k_cG, if_neg c_10, if_neg c_27, if_neg c_38, if_neg c_50]); rw [e, if_pos rfl, hcl9]) (by have e : k_cG N (nI i) v2 v3 v4 = 0 := (by simp (decide := true) only [k_cG, if_neg c_10, if_neg c_27, if_neg c_38, if_neg c_50]); rw [e, if_pos rfl, hcl9]; exact hP) hS dX2_gear_89
        · refine lv_aload_n hx hb dX2_gear_53 rfl (lv_at hl 0 rfl) ?_
          refine lv_iconst (v := 2) hx hb dX2_gear_54 (by decide) ?_
          have sp := cu_sp.all (W0 := (cu_mw C o r q 0 (nI N) mn K)) (W1 := (cu_mw C o r q 2 (nI N) mn K)) cu_mw_fst
          refine cu_callI (va_runV (As := [.int 2]) (rest := []) ⟨hx, hb, hml, hown, hts⟩ ((m_X2_fail l D C o r q 0 N hN mn K 2) H.size) (cwV 1 hts gX2_gear_X2_fail rfl rfl rfl (by decide +kernel) ⟨Nat.le_of_ble_eq_true rfl, Nat.le_of_ble_eq_true rfl⟩) (cu_preV (ci := 2) sp hG hP hD rfl rfl) rfl rfl hl.1 rfl (lv_room (Nat.le_of_ble_eq_true rfl)) dX2_gear_55 ⟨Nat.le_of_ble_eq_true rfl, Nat.le_of_ble_eq_true rfl⟩) sp hP hD hS hA (fun H locs hP hD hS => ?_)
          have hP : va_P D vwCl (cu_mw C o r q 2 (nI N) mn K) H := hP
          have hD : va_D A (cu_mw C o r q 2 (nI N) mn K) := hD
          exact fin _ _ _ _ _ rfl (by have e : k_cG N (nI i) v2 v3 v4 = 2 := (by simp (decide := true) only [k_cG, if_neg c_10, if_neg c_27, if_neg c_38, if_pos c_50]); rw [e, if_neg (by decide)]) (by have e : k_cG N (nI i) v2 v3 v4 = 2 := (by simp (decide := true) only [k_cG, if_neg c_10, if_neg c_27, if_neg c_38, if_pos c_50]); rw [e, if_neg (by decide)]; exact hP) hS dX2_gear_58
  · refine lv_aload_n hx hb dX2_gear_13 rfl (lv_at hl 0 rfl) ?_
    refine lv_iconst (v := 1) hx hb dX2_gear_14 (by decide) ?_
    have sp := cu_sp.all (W0 := (cu_mw C o r q 0 (nI N) mn K)) (W1 := (cu_mw C o r q 1 (nI N) mn K)) cu_mw_fst
    refine cu_callI (va_runV (As := [.int 1]) (rest := []) ⟨hx, hb, hml, hown, hts⟩ ((m_X2_fail l D C o r q 0 N hN mn K 1) H.size) (cwV 1 hts gX2_gear_X2_fail rfl rfl rfl (by decide +kernel) ⟨Nat.le_of_ble_eq_true rfl, Nat.le_of_ble_eq_true rfl⟩) (cu_preV (ci := 2) sp hG hP hD rfl rfl) rfl rfl hl.1 rfl (lv_room (Nat.le_of_ble_eq_true rfl)) dX2_gear_15 ⟨Nat.le_of_ble_eq_true rfl, Nat.le_of_ble_eq_true rfl⟩) sp hP hD hS hA (fun H locs hP hD hS => ?_)
    have hP : va_P D vwCl (cu_mw C o r q 1 (nI N) mn K) H := hP
    have hD : va_D A (cu_mw C o r q 1 (nI N) mn K) := hD
    exact fin _ _ _ _ _ rfl (by have e : k_cG N v1 v2 v3 v4 = 1 := (by simp (decide := true) only [k_cG, if_pos c_10]); rw [e, if_neg (by decide)]) (by have e : k_cG N v1 v2 v3 v4 = 1 := (by simp (decide := true) only [k_cG, if_pos c_10]); rw [e, if_neg (by decide)]; exact hP) hS dX2_gear_18

set_option maxHeartbeats 4000000 in
set_option maxRecDepth 100000 in
theorem m_X2_set (l : Launch) (D : va_G) (C : Nat → ClassId) (o r q : Nat) (th : Int32) (N : Nat) (hN : N ≤ 10) (mn : Int32) (K : Nat → Nat → Int32) (v1 : Int32) (v2 : Int32) (hok : ∀ c, c < N → k_ok (K c)) (hm : 0 ≤ mn.toInt) : cu_I l D C yX2_set wsX2_set { frames := 2, cells := 0, slots := 0, locals := 43 } [.ref o, .int v1, .int v2] (cu_mw C o r q th (nI N) mn K) (cu_mw C o r q (k_cT N v1 v2) (nI N) mn (if k_cT N v1 v2 = 0 then va_up K v1.toNatClampNeg (upd (upd (K v1.toNatClampNeg) 0 v2) 1 0) else K)) (if k_cT N v1 v2 = 0 then k_off (K v1.toNatClampNeg) mn else 0) 0 0 := by
  refine cu_openI (cc := cX2_set) (maxL := 4) (ty := .int) (own := RX2) (by decide) rfl rfl (Nat.le_of_ble_eq_true rfl) ?_
  intro p e s m args below meth c A Z H0 ls e0 hx hb hml hts hown hnm hG hP hD hS hA hl fin
  have hK := hG.1
  have hl : lv_has ls 4 [(0, .ref o), (1, .int v1), (2, .int v2)] := hl
  have hiX2 : ∀ w ∈ wsX20, w ∈ wsX2_set := by decide +kernel
  refine lv_aload_n hx hb dX2_set_0 rfl (lv_at hl 0 rfl) ?_
  refine lv_iconst (v := 0) hx hb dX2_set_1 (by decide) ?_
  refine va_put (D := D) (ci := 2) (v := .int 0) (ty := .int) (C := RX2) (T := TX2) (N := 4) hx hb hts hiX2 tyX2 tyX2_ok nmX2 hown hK hP hD hS 0 rfl rfl 0 (by decide) (hts (.fieldLink RX2 16 "CuckooShopModel" "thrown" "I") (by decide +kernel)) (fun _ h9 => h9) rfl (by decide +kernel) rfl rfl (Nat.le_of_ble_eq_true rfl) dX2_set_2 (fun H locs hP hD hS => ?_)
  have hP : va_P D vwCl (cu_mw C o r q 0 (nI N) mn K) H := hP
  have hD : va_D A (cu_mw C o r q 0 (nI N) mn K) := hD
  refine lv_aload_n hx hb dX2_set_5 rfl (lv_at hl 0 rfl) ?_
  refine lv_iload_n hx hb dX2_set_6 rfl (lv_at hl 1 rfl) ?_
  have sp := cu_sp.all (W0 := (cu_mw C o r q 0 (nI N) mn K)) (W1 := (cu_mw C o r q 0 (nI N) mn K)) rfl
  refine cu_callI (va_runV (As := [.int v1]) (rest := []) ⟨hx, hb, hml, hown, hts⟩ ((m_X2_isClock l D C o r q 0 N hN mn K v1) H.size) (cwV 1 hts gX2_set_X2_isClock rfl rfl rfl (by decide +kernel) ⟨Nat.le_of_ble_eq_true rfl, Nat.le_of_ble_eq_true rfl⟩) (cu_preV (ci := 2) sp hG hP hD rfl rfl) rfl rfl hl.1 rfl (lv_room (Nat.le_of_ble_eq_true rfl)) dX2_set_7 ⟨Nat.le_of_ble_eq_true rfl, Nat.le_of_ble_eq_true rfl⟩) sp hP hD hS hA (fun H locs hP hD hS => ?_)
  have hP : va_P D vwCl (cu_mw C o r q 0 (nI N) mn K) H := hP
  have hD : va_D A (cu_mw C o r q 0 (nI N) mn K) := hD
  refine lv_if_ne (tgt := 19) hx hb dX2_set_10 (by decide) (fun c_10 => ?_) (fun c_10 => ?_)
  · obtain ⟨i, hiN, rfl⟩ := k_isC_in hN c_10
    have hi : i < 10 := by omega
    have hcl9 : (nI i).toNatClampNeg = i := nI_clamp (by omega)
    refine lv_iload_n hx hb dX2_set_19 rfl (lv_at hl 2 rfl) ?_
    refine lv_iconst (v := 0) hx hb dX2_set_20 (by decide) ?_
    refine lv_sipush (v := 719) hx hb dX2_set_21 (by decide) ?_
    have sp := cu_sp.nil (W0 := (cu_mw C o r q 0 (nI N) mn K))
    refine cu_callI (va_runS (As := [.int v2, .int 0, .int 719]) (rest := []) ⟨hx, hb, hml, hown, hts⟩ ((m_X2_isIn l D C v2 0 719) H.size) (va_cwS 3 hts gX2_set_X2_isIn rfl rfl rfl (by decide +kernel) ⟨Nat.le_of_ble_eq_true rfl, Nat.le_of_ble_eq_true rfl⟩) (cu_preS sp hG hP hD) rfl rfl hl.1 rfl (lv_room (Nat.le_of_ble_eq_true rfl)) dX2_set_24 ⟨Nat.le_of_ble_eq_true rfl, Nat.le_of_ble_eq_true rfl⟩) sp hP hD hS hA (fun H locs hP hD hS => ?_)
    refine lv_if_ne (tgt := 36) hx hb dX2_set_27 (by decide) (fun c_27 => ?_) (fun c_27 => ?_)
    · refine lv_aload_n hx hb dX2_set_36 rfl (lv_at hl 0 rfl) ?_
      refine lv_iload_n hx hb dX2_set_37 rfl (lv_at hl 1 rfl) ?_
      have sp := cu_sp.all (W0 := (cu_mw C o r q 0 (nI N) mn K)) (W1 := (cu_mw C o r q 0 (nI N) mn K)) rfl
      refine cu_callI (va_runV (As := [.int (nI i)]) (rest := []) ⟨hx, hb, hml, hown, hts⟩ ((m_X2_offBy l D C o r q 0 N hN mn K i hi (K i) rfl  (hok i hiN).c hm) H.size) (cwV 1 hts gX2_set_X2_offBy rfl rfl rfl (by decide +kernel) ⟨Nat.le_of_ble_eq_true rfl, Nat.le_of_ble_eq_true rfl⟩) (cu_preV (ci := 2) sp hG hP hD rfl rfl) rfl rfl hl.1 rfl (lv_room (Nat.le_of_ble_eq_true rfl)) dX2_set_38 ⟨Nat.le_of_ble_eq_true rfl, Nat.le_of_ble_eq_true rfl⟩) sp hP hD hS hA (fun H locs hP hD hS => ?_)
      have hP : va_P D vwCl (cu_mw C o r q 0 (nI N) mn K) H := hP
      have hD : va_D A (cu_mw C o r q 0 (nI N) mn K) := hD
      refine lv_istore_n (lv' := [(3, .int (k_off (K i) mn)), (0, .ref o), (1, .int (nI i)), (2, .int v2)]) hx hb dX2_set_41 rfl hl (by decide) rfl (fun ls hl => ?_)
      refine lv_aload_n hx hb dX2_set_42 rfl (lv_at hl 1 rfl) ?_
      refine lv_iload_n hx hb dX2_set_43 rfl (lv_at hl 2 rfl) ?_
      refine lv_iconst (v := 0) hx hb dX2_set_44 (by decide) ?_
      refine lv_iload_n hx hb dX2_set_45 rfl (lv_at hl 3 rfl) ?_
      have sp := cu_sp.all (W0 := (cu_mw C o r q 0 (nI N) mn K)) (W1 := (cu_mw C o r q 0 (nI N) mn (va_up K i (upd (K i) 0 v2)))) cu_mw_fst
      refine cu_callV (va_runV (As := [.int (nI i), .int 0, .int v2]) (rest := []) ⟨hx, hb, hml, hown, hts⟩ ((m_X2_put l D C o r q 0 N hN mn K i 0 hi (by decide) v2 (va_up K i (upd (K i) 0 v2)) rfl) H.size) (cwV 3 hts gX2_set_X2_put rfl rfl rfl (by decide +kernel) ⟨Nat.le_of_ble_eq_true rfl, Nat.le_of_ble_eq_true rfl⟩) (cu_preV (ci := 2) sp hG hP hD rfl rfl) rfl rfl hl.1 rfl (lv_room (Nat.le_of_ble_eq_true rfl)) dX2_set_46 ⟨Nat.le_of_ble_eq_true rfl, Nat.le_of_ble_eq_true rfl⟩) sp hP hD hS hA (fun H locs hP hD hS => ?_)
      have hP : va_P D vwCl (cu_mw C o r q 0 (nI N) mn (va_up K i (upd (K i) 0 v2))) H := hP
      have hD : va_D A (cu_mw C o r q 0 (nI N) mn (va_up K i (upd (K i) 0 v2))) := hD
      refine lv_aload_n hx hb dX2_set_49 rfl (lv_at hl 1 rfl) ?_
      refine lv_iload_n hx hb dX2_set_50 rfl (lv_at hl 2 rfl) ?_
      refine lv_iconst (v := 1) hx hb dX2_set_51 (by decide) ?_
      refine lv_iconst (v := 0) hx hb dX2_set_52 (by decide) ?_
      have sp := cu_sp.all (W0 := (cu_mw C o r q 0 (nI N) mn (va_up K i (upd (K i) 0 v2)))) (W1 := (cu_mw C o r q 0 (nI N) mn (va_up K i (upd (upd (K i) 0 v2) 1 0)))) cu_mw_fst
      refine cu_callV (va_runV (As := [.int (nI i), .int 1, .int 0]) (rest := []) ⟨hx, hb, hml, hown, hts⟩ ((m_X2_put l D C o r q 0 N hN mn (va_up K i (upd (K i) 0 v2)) i 1 hi (by decide) 0 (va_up K i (upd (upd (K i) 0 v2) 1 0)) (by rw [va_up_self, bx_uu])) H.size) (cwV 3 hts gX2_set_X2_put rfl rfl rfl (by decide +kernel) ⟨Nat.le_of_ble_eq_true rfl, Nat.le_of_ble_eq_true rfl⟩) (cu_preV (ci := 2) sp hG hP hD rfl rfl) rfl rfl hl.1 rfl (lv_room (Nat.le_of_ble_eq_true rfl)) dX2_set_53 ⟨Nat.le_of_ble_eq_true rfl, Nat.le_of_ble_eq_true rfl⟩) sp hP hD hS hA (fun H locs hP hD hS => ?_)
      have hP : va_P D vwCl (cu_mw C o r q 0 (nI N) mn (va_up K i (upd (upd (K i) 0 v2) 1 0))) H := hP
      have hD : va_D A (cu_mw C o r q 0 (nI N) mn (va_up K i (upd (upd (K i) 0 v2) 1 0))) := hD
      refine lv_iload_n hx hb dX2_set_56 rfl (lv_at hl 0 rfl) ?_
      exact fin _ _ _ _ _ rfl (by have e : k_cT N (nI i) v2 = 0 := (by simp (decide := true) only [k_cT, if_neg c_10, if_neg c_27]); rw [e, if_pos rfl, hcl9]) (by have e : k_cT N (nI i) v2 = 0 := (by simp (decide := true) only [k_cT, if_neg c_10, if_neg c_27]); rw [e, if_pos rfl, hcl9]; exact hP) hS dX2_set_57
    · refine lv_aload_n hx hb dX2_set_30 rfl (lv_at hl 0 rfl) ?_
      refine lv_iconst (v := 2) hx hb dX2_set_31 (by decide) ?_
      have sp := cu_sp.all (W0 := (cu_mw C o r q 0 (nI N) mn K)) (W1 := (cu_mw C o r q 2 (nI N) mn K)) cu_mw_fst
      refine cu_callI (va_runV (As := [.int 2]) (rest := []) ⟨hx, hb, hml, hown, hts⟩ ((m_X2_fail l D C o r q 0 N hN mn K 2) H.size) (cwV 1 hts gX2_set_X2_fail rfl rfl rfl (by decide +kernel) ⟨Nat.le_of_ble_eq_true rfl, Nat.le_of_ble_eq_true rfl⟩) (cu_preV (ci := 2) sp hG hP hD rfl rfl) rfl rfl hl.1 rfl (lv_room (Nat.le_of_ble_eq_true rfl)) dX2_set_32 ⟨Nat.le_of_ble_eq_true rfl, Nat.le_of_ble_eq_true rfl⟩) sp hP hD hS hA (fun H locs hP hD hS => ?_)
      have hP : va_P D vwCl (cu_mw C o r q 2 (nI N) mn K) H := hP
      have hD : va_D A (cu_mw C o r q 2 (nI N) mn K) := hD
      exact fin _ _ _ _ _ rfl (by have e : k_cT N (nI i) v2 = 2 := (by simp (decide := true) only [k_cT, if_neg c_10, if_pos c_27]); rw [e, if_neg (by decide)]) (by have e : k_cT N (nI i) v2 = 2 := (by simp (decide := true) only [k_cT, if_neg c_10, if_pos c_27]); rw [e, if_neg (by decide)]; exact hP) hS dX2_set_35
  · refine lv_aload_n hx hb dX2_set_13 rfl (lv_at hl 0 rfl) ?_
    refine lv_iconst (v := 1) hx hb dX2_set_14 (by decide) ?_
    have sp := cu_sp.all (W0 := (cu_mw C o r q 0 (nI N) mn K)) (W1 := (cu_mw C o r q 1 (nI N) mn K)) cu_mw_fst
    refine cu_callI (va_runV (As := [.int 1]) (rest := []) ⟨hx, hb, hml, hown, hts⟩ ((m_X2_fail l D C o r q 0 N hN mn K 1) H.size) (cwV 1 hts gX2_set_X2_fail rfl rfl rfl (by decide +kernel) ⟨Nat.le_of_ble_eq_true rfl, Nat.le_of_ble_eq_true rfl⟩) (cu_preV (ci := 2) sp hG hP hD rfl rfl) rfl rfl hl.1 rfl (lv_room (Nat.le_of_ble_eq_true rfl)) dX2_set_15 ⟨Nat.le_of_ble_eq_true rfl, Nat.le_of_ble_eq_true rfl⟩) sp hP hD hS hA (fun H locs hP hD hS => ?_)
    have hP : va_P D vwCl (cu_mw C o r q 1 (nI N) mn K) H := hP
    have hD : va_D A (cu_mw C o r q 1 (nI N) mn K) := hD
    exact fin _ _ _ _ _ rfl (by have e : k_cT N v1 v2 = 1 := (by simp (decide := true) only [k_cT, if_pos c_10]); rw [e, if_neg (by decide)]) (by have e : k_cT N v1 v2 = 1 := (by simp (decide := true) only [k_cT, if_pos c_10]); rw [e, if_neg (by decide)]; exact hP) hS dX2_set_18

set_option maxHeartbeats 4000000 in
set_option maxRecDepth 100000 in
theorem m_X2_wind (l : Launch) (D : va_G) (C : Nat → ClassId) (o r q : Nat) (th : Int32) (N : Nat) (hN : N ≤ 10) (mn : Int32) (K : Nat → Nat → Int32) (v1 : Int32) : cu_I l D C yX2_wind wsX2_wind { frames := 2, cells := 0, slots := 0, locals := 43 } [.ref o, .int v1] (cu_mw C o r q th (nI N) mn K) (cu_mw C o r q (k_c1 N v1) (nI N) mn (if k_c1 N v1 = 0 then va_up K v1.toNatClampNeg (upd (upd (K v1.toNatClampNeg) 2 600) 5 1) else K)) (if k_c1 N v1 = 0 then 600 - K v1.toNatClampNeg 2 else 0) 0 0 := by
  refine cu_openI (cc := cX2_wind) (maxL := 3) (ty := .int) (own := RX2) (by decide) rfl rfl (Nat.le_of_ble_eq_true rfl) ?_
  intro p e s m args below meth c A Z H0 ls e0 hx hb hml hts hown hnm hG hP hD hS hA hl fin
  have hK := hG.1
  have hl : lv_has ls 3 [(0, .ref o), (1, .int v1)] := hl
  have hiX2 : ∀ w ∈ wsX20, w ∈ wsX2_wind := by decide +kernel
  refine lv_aload_n hx hb dX2_wind_0 rfl (lv_at hl 0 rfl) ?_
  refine lv_iconst (v := 0) hx hb dX2_wind_1 (by decide) ?_
  refine va_put (D := D) (ci := 2) (v := .int 0) (ty := .int) (C := RX2) (T := TX2) (N := 4) hx hb hts hiX2 tyX2 tyX2_ok nmX2 hown hK hP hD hS 0 rfl rfl 0 (by decide) (hts (.fieldLink RX2 16 "CuckooShopModel" "thrown" "I") (by decide +kernel)) (fun _ h9 => h9) rfl (by decide +kernel) rfl rfl (Nat.le_of_ble_eq_true rfl) dX2_wind_2 (fun H locs hP hD hS => ?_)
  have hP : va_P D vwCl (cu_mw C o r q 0 (nI N) mn K) H := hP
  have hD : va_D A (cu_mw C o r q 0 (nI N) mn K) := hD
  refine lv_aload_n hx hb dX2_wind_5 rfl (lv_at hl 0 rfl) ?_
  refine lv_iload_n hx hb dX2_wind_6 rfl (lv_at hl 1 rfl) ?_
  have sp := cu_sp.all (W0 := (cu_mw C o r q 0 (nI N) mn K)) (W1 := (cu_mw C o r q 0 (nI N) mn K)) rfl
  refine cu_callI (va_runV (As := [.int v1]) (rest := []) ⟨hx, hb, hml, hown, hts⟩ ((m_X2_isClock l D C o r q 0 N hN mn K v1) H.size) (cwV 1 hts gX2_wind_X2_isClock rfl rfl rfl (by decide +kernel) ⟨Nat.le_of_ble_eq_true rfl, Nat.le_of_ble_eq_true rfl⟩) (cu_preV (ci := 2) sp hG hP hD rfl rfl) rfl rfl hl.1 rfl (lv_room (Nat.le_of_ble_eq_true rfl)) dX2_wind_7 ⟨Nat.le_of_ble_eq_true rfl, Nat.le_of_ble_eq_true rfl⟩) sp hP hD hS hA (fun H locs hP hD hS => ?_)
  have hP : va_P D vwCl (cu_mw C o r q 0 (nI N) mn K) H := hP
  have hD : va_D A (cu_mw C o r q 0 (nI N) mn K) := hD
  refine lv_if_ne (tgt := 19) hx hb dX2_wind_10 (by decide) (fun c_10 => ?_) (fun c_10 => ?_)
  · obtain ⟨i, hiN, rfl⟩ := k_isC_in hN c_10
    have hi : i < 10 := by omega
    have hcl9 : (nI i).toNatClampNeg = i := nI_clamp (by omega)
    refine lv_sipush (v := 600) hx hb dX2_wind_19 (by decide) ?_
    refine lv_aload_n hx hb dX2_wind_22 rfl (lv_at hl 0 rfl) ?_
    refine lv_iload_n hx hb dX2_wind_23 rfl (lv_at hl 1 rfl) ?_
    refine lv_iconst (v := 2) hx hb dX2_wind_24 (by decide) ?_
    have sp := cu_sp.all (W0 := (cu_mw C o r q 0 (nI N) mn K)) (W1 := (cu_mw C o r q 0 (nI N) mn K)) rfl
    refine cu_callI (va_runV (As := [.int (nI i), .int 2]) (rest := [.int 600]) ⟨hx, hb, hml, hown, hts⟩ ((m_X2_sh l D C o r q 0 N hN mn K i 2 hi (by decide) (K i 2) rfl) H.size) (cwV 2 hts gX2_wind_X2_sh rfl rfl rfl (by decide +kernel) ⟨Nat.le_of_ble_eq_true rfl, Nat.le_of_ble_eq_true rfl⟩) (cu_preV (ci := 2) sp hG hP hD rfl rfl) rfl rfl hl.1 rfl (lv_room (Nat.le_of_ble_eq_true rfl)) dX2_wind_25 ⟨Nat.le_of_ble_eq_true rfl, Nat.le_of_ble_eq_true rfl⟩) sp hP hD hS hA (fun H locs hP hD hS => ?_)
    have hP : va_P D vwCl (cu_mw C o r q 0 (nI N) mn K) H := hP
    have hD : va_D A (cu_mw C o r q 0 (nI N) mn K) := hD
    refine lv_isub hx hb dX2_wind_28 ?_
    refine lv_istore_n (lv' := [(2, .int (600 - (K i 2))), (0, .ref o), (1, .int (nI i))]) hx hb dX2_wind_29 rfl hl (by decide) rfl (fun ls hl => ?_)
    refine lv_aload_n hx hb dX2_wind_30 rfl (lv_at hl 1 rfl) ?_
    refine lv_iload_n hx hb dX2_wind_31 rfl (lv_at hl 2 rfl) ?_
    refine lv_iconst (v := 2) hx hb dX2_wind_32 (by decide) ?_
    refine lv_sipush (v := 600) hx hb dX2_wind_33 (by decide) ?_
    have sp := cu_sp.all (W0 := (cu_mw C o r q 0 (nI N) mn K)) (W1 := (cu_mw C o r q 0 (nI N) mn (va_up K i (upd (K i) 2 600)))) cu_mw_fst
    refine cu_callV (va_runV (As := [.int (nI i), .int 2, .int 600]) (rest := []) ⟨hx, hb, hml, hown, hts⟩ ((m_X2_put l D C o r q 0 N hN mn K i 2 hi (by decide) 600 (va_up K i (upd (K i) 2 600)) rfl) H.size) (cwV 3 hts gX2_wind_X2_put rfl rfl rfl (by decide +kernel) ⟨Nat.le_of_ble_eq_true rfl, Nat.le_of_ble_eq_true rfl⟩) (cu_preV (ci := 2) sp hG hP hD rfl rfl) rfl rfl hl.1 rfl (lv_room (Nat.le_of_ble_eq_true rfl)) dX2_wind_36 ⟨Nat.le_of_ble_eq_true rfl, Nat.le_of_ble_eq_true rfl⟩) sp hP hD hS hA (fun H locs hP hD hS => ?_)
    have hP : va_P D vwCl (cu_mw C o r q 0 (nI N) mn (va_up K i (upd (K i) 2 600))) H := hP
    have hD : va_D A (cu_mw C o r q 0 (nI N) mn (va_up K i (upd (K i) 2 600))) := hD
    refine lv_aload_n hx hb dX2_wind_39 rfl (lv_at hl 1 rfl) ?_
    refine lv_iload_n hx hb dX2_wind_40 rfl (lv_at hl 2 rfl) ?_
    refine lv_iconst (v := 5) hx hb dX2_wind_41 (by decide) ?_
    refine lv_iconst (v := 1) hx hb dX2_wind_42 (by decide) ?_
    have sp := cu_sp.all (W0 := (cu_mw C o r q 0 (nI N) mn (va_up K i (upd (K i) 2 600)))) (W1 := (cu_mw C o r q 0 (nI N) mn (va_up K i (upd (upd (K i) 2 600) 5 1)))) cu_mw_fst
    refine cu_callV (va_runV (As := [.int (nI i), .int 5, .int 1]) (rest := []) ⟨hx, hb, hml, hown, hts⟩ ((m_X2_put l D C o r q 0 N hN mn (va_up K i (upd (K i) 2 600)) i 5 hi (by decide) 1 (va_up K i (upd (upd (K i) 2 600) 5 1)) (by rw [va_up_self, bx_uu])) H.size) (cwV 3 hts gX2_wind_X2_put rfl rfl rfl (by decide +kernel) ⟨Nat.le_of_ble_eq_true rfl, Nat.le_of_ble_eq_true rfl⟩) (cu_preV (ci := 2) sp hG hP hD rfl rfl) rfl rfl hl.1 rfl (lv_room (Nat.le_of_ble_eq_true rfl)) dX2_wind_43 ⟨Nat.le_of_ble_eq_true rfl, Nat.le_of_ble_eq_true rfl⟩) sp hP hD hS hA (fun H locs hP hD hS => ?_)
    have hP : va_P D vwCl (cu_mw C o r q 0 (nI N) mn (va_up K i (upd (upd (K i) 2 600) 5 1))) H := hP
    have hD : va_D A (cu_mw C o r q 0 (nI N) mn (va_up K i (upd (upd (K i) 2 600) 5 1))) := hD
    refine lv_iload_n hx hb dX2_wind_46 rfl (lv_at hl 0 rfl) ?_
    exact fin _ _ _ _ _ rfl (by have e : k_c1 N (nI i) = 0 := (by simp (decide := true) only [k_c1, if_neg c_10]); rw [e, if_pos rfl, hcl9]) (by have e : k_c1 N (nI i) = 0 := (by simp (decide := true) only [k_c1, if_neg c_10]); rw [e, if_pos rfl, hcl9]; exact hP) hS dX2_wind_47
  · refine lv_aload_n hx hb dX2_wind_13 rfl (lv_at hl 0 rfl) ?_
    refine lv_iconst (v := 1) hx hb dX2_wind_14 (by decide) ?_
    have sp := cu_sp.all (W0 := (cu_mw C o r q 0 (nI N) mn K)) (W1 := (cu_mw C o r q 1 (nI N) mn K)) cu_mw_fst
    refine cu_callI (va_runV (As := [.int 1]) (rest := []) ⟨hx, hb, hml, hown, hts⟩ ((m_X2_fail l D C o r q 0 N hN mn K 1) H.size) (cwV 1 hts gX2_wind_X2_fail rfl rfl rfl (by decide +kernel) ⟨Nat.le_of_ble_eq_true rfl, Nat.le_of_ble_eq_true rfl⟩) (cu_preV (ci := 2) sp hG hP hD rfl rfl) rfl rfl hl.1 rfl (lv_room (Nat.le_of_ble_eq_true rfl)) dX2_wind_15 ⟨Nat.le_of_ble_eq_true rfl, Nat.le_of_ble_eq_true rfl⟩) sp hP hD hS hA (fun H locs hP hD hS => ?_)
    have hP : va_P D vwCl (cu_mw C o r q 1 (nI N) mn K) H := hP
    have hD : va_D A (cu_mw C o r q 1 (nI N) mn K) := hD
    exact fin _ _ _ _ _ rfl (by have e : k_c1 N v1 = 1 := (by simp (decide := true) only [k_c1, if_pos c_10]); rw [e, if_neg (by decide)]) (by have e : k_c1 N v1 = 1 := (by simp (decide := true) only [k_c1, if_pos c_10]); rw [e, if_neg (by decide)]; exact hP) hS dX2_wind_18

set_option maxHeartbeats 4000000 in
set_option maxRecDepth 100000 in
theorem m_X2_mend (l : Launch) (D : va_G) (C : Nat → ClassId) (o r q : Nat) (th : Int32) (N : Nat) (hN : N ≤ 10) (mn : Int32) (K : Nat → Nat → Int32) (v1 : Int32) (v2 : Int32) (hok : ∀ c, c < N → k_ok (K c)) : cu_I l D C yX2_mend wsX2_mend { frames := 2, cells := 0, slots := 0, locals := 43 } [.ref o, .int v1, .int v2] (cu_mw C o r q th (nI N) mn K) (cu_mw C o r q (k_cE N v1 v2) (nI N) mn (if k_cE N v1 v2 = 0 then va_up K v1.toNatClampNeg (k_mendK (K v1.toNatClampNeg) v2) else K)) (if k_cE N v1 v2 = 0 then k_mendV (K v1.toNatClampNeg) v2 else 0) 0 0 := by
  refine cu_openI (cc := cX2_mend) (maxL := 6) (ty := .int) (own := RX2) (by decide) rfl rfl (Nat.le_of_ble_eq_true rfl) ?_
  intro p e s m args below meth c A Z H0 ls e0 hx hb hml hts hown hnm hG hP hD hS hA hl fin
  have hK := hG.1
  have hl : lv_has ls 6 [(0, .ref o), (1, .int v1), (2, .int v2)] := hl
  have hiX2 : ∀ w ∈ wsX20, w ∈ wsX2_mend := by decide +kernel
  refine lv_aload_n hx hb dX2_mend_0 rfl (lv_at hl 0 rfl) ?_
  refine lv_iconst (v := 0) hx hb dX2_mend_1 (by decide) ?_
  refine va_put (D := D) (ci := 2) (v := .int 0) (ty := .int) (C := RX2) (T := TX2) (N := 4) hx hb hts hiX2 tyX2 tyX2_ok nmX2 hown hK hP hD hS 0 rfl rfl 0 (by decide) (hts (.fieldLink RX2 16 "CuckooShopModel" "thrown" "I") (by decide +kernel)) (fun _ h9 => h9) rfl (by decide +kernel) rfl rfl (Nat.le_of_ble_eq_true rfl) dX2_mend_2 (fun H locs hP hD hS => ?_)
  have hP : va_P D vwCl (cu_mw C o r q 0 (nI N) mn K) H := hP
  have hD : va_D A (cu_mw C o r q 0 (nI N) mn K) := hD
  refine lv_aload_n hx hb dX2_mend_5 rfl (lv_at hl 0 rfl) ?_
  refine lv_iload_n hx hb dX2_mend_6 rfl (lv_at hl 1 rfl) ?_
  have sp := cu_sp.all (W0 := (cu_mw C o r q 0 (nI N) mn K)) (W1 := (cu_mw C o r q 0 (nI N) mn K)) rfl
  refine cu_callI (va_runV (As := [.int v1]) (rest := []) ⟨hx, hb, hml, hown, hts⟩ ((m_X2_isClock l D C o r q 0 N hN mn K v1) H.size) (cwV 1 hts gX2_mend_X2_isClock rfl rfl rfl (by decide +kernel) ⟨Nat.le_of_ble_eq_true rfl, Nat.le_of_ble_eq_true rfl⟩) (cu_preV (ci := 2) sp hG hP hD rfl rfl) rfl rfl hl.1 rfl (lv_room (Nat.le_of_ble_eq_true rfl)) dX2_mend_7 ⟨Nat.le_of_ble_eq_true rfl, Nat.le_of_ble_eq_true rfl⟩) sp hP hD hS hA (fun H locs hP hD hS => ?_)
  have hP : va_P D vwCl (cu_mw C o r q 0 (nI N) mn K) H := hP
  have hD : va_D A (cu_mw C o r q 0 (nI N) mn K) := hD
  refine lv_if_ne (tgt := 19) hx hb dX2_mend_10 (by decide) (fun c_10 => ?_) (fun c_10 => ?_)
  · obtain ⟨i, hiN, rfl⟩ := k_isC_in hN c_10
    have hi : i < 10 := by omega
    have hcl9 : (nI i).toNatClampNeg = i := nI_clamp (by omega)
    refine lv_iload_n hx hb dX2_mend_19 rfl (lv_at hl 2 rfl) ?_
    refine lv_iconst (v := 0) hx hb dX2_mend_20 (by decide) ?_
    refine lv_iconst (v := 2) hx hb dX2_mend_21 (by decide) ?_
    have sp := cu_sp.nil (W0 := (cu_mw C o r q 0 (nI N) mn K))
    refine cu_callI (va_runS (As := [.int v2, .int 0, .int 2]) (rest := []) ⟨hx, hb, hml, hown, hts⟩ ((m_X2_isIn l D C v2 0 2) H.size) (va_cwS 3 hts gX2_mend_X2_isIn rfl rfl rfl (by decide +kernel) ⟨Nat.le_of_ble_eq_true rfl, Nat.le_of_ble_eq_true rfl⟩) (cu_preS sp hG hP hD) rfl rfl hl.1 rfl (lv_room (Nat.le_of_ble_eq_true rfl)) dX2_mend_22 ⟨Nat.le_of_ble_eq_true rfl, Nat.le_of_ble_eq_true rfl⟩) sp hP hD hS hA (fun H locs hP hD hS => ?_)
    refine lv_if_ne (tgt := 34) hx hb dX2_mend_25 (by decide) (fun c_25 => ?_) (fun c_25 => ?_)
    · refine lv_iload_n hx hb dX2_mend_34 rfl (lv_at hl 2 rfl) ?_
      refine lv_iconst (v := 2) hx hb dX2_mend_35 (by decide) ?_
      refine lv_icmp_ne (tgt := 75) hx hb dX2_mend_36 (by decide) (fun c_36 => ?_) (fun c_36 => ?_)
      · refine lv_iload_n hx hb dX2_mend_75 rfl (lv_at hl 2 rfl) ?_
        refine lv_if_ne (tgt := 83) hx hb dX2_mend_76 (by decide) (fun c_76 => ?_) (fun c_76 => ?_)
        · refine lv_iconst (v := 4) hx hb dX2_mend_83 (by decide) ?_
          refine lv_istore_n (lv' := [(3, .int 4), (0, .ref o), (1, .int (nI i)), (2, .int v2)]) hx hb dX2_mend_84 rfl hl (by decide) rfl (fun ls hl => ?_)
          refine lv_iload_n hx hb dX2_mend_85 rfl (lv_at hl 3 rfl) ?_
          refine lv_if_ne (tgt := 94) hx hb dX2_mend_86 (by decide) (fun c_86 => ?_) (fun c_86 => absurd c_86 c_76)
          refine lv_bipush (v := 60) hx hb dX2_mend_94 (by decide) ?_
          refine lv_istore (lv' := [(4, .int 60), (3, .int 4), (0, .ref o), (1, .int (nI i)), (2, .int v2)]) hx hb dX2_mend_96 hl (by decide) rfl (fun ls hl => ?_)
          refine lv_iload hx hb dX2_mend_98 (lv_at hl 0 rfl) ?_
          refine lv_aload_n hx hb dX2_mend_100 rfl (lv_at hl 2 rfl) ?_
          refine lv_iload_n hx hb dX2_mend_101 rfl (lv_at hl 3 rfl) ?_
          refine lv_iload_n hx hb dX2_mend_102 rfl (lv_at hl 1 rfl) ?_
          have sp := cu_sp.all (W0 := (cu_mw C o r q 0 (nI N) mn K)) (W1 := (cu_mw C o r q 0 (nI N) mn K)) rfl
          refine cu_callI (va_runV (As := [.int (nI i), .int 4]) (rest := [.int 60]) ⟨hx, hb, hml, hown, hts⟩ ((m_X2_sh l D C o r q 0 N hN mn K i 4 hi (by decide) (K i 4) rfl) H.size) (cwV 2 hts gX2_mend_X2_sh rfl rfl rfl (by decide +kernel) ⟨Nat.le_of_ble_eq_true rfl, Nat.le_of_ble_eq_true rfl⟩) (cu_preV (ci := 2) sp hG hP hD rfl rfl) rfl rfl hl.1 rfl (lv_room (Nat.le_of_ble_eq_true rfl)) dX2_mend_103 ⟨Nat.le_of_ble_eq_true rfl, Nat.le_of_ble_eq_true rfl⟩) sp hP hD hS hA (fun H locs hP hD hS => ?_)
          have hP : va_P D vwCl (cu_mw C o r q 0 (nI N) mn K) H := hP
          have hD : va_D A (cu_mw C o r q 0 (nI N) mn K) := hD
          refine lv_isub hx hb dX2_mend_106 ?_
          refine lv_istore (lv' := [(5, .int (60 - (K i 4))), (4, .int 60), (3, .int 4), (0, .ref o), (1, .int (nI i)), (2, .int v2)]) hx hb dX2_mend_107 hl (by decide) rfl (fun ls hl => ?_)
          refine lv_aload_n hx hb dX2_mend_109 rfl (lv_at hl 3 rfl) ?_
          refine lv_iload_n hx hb dX2_mend_110 rfl (lv_at hl 4 rfl) ?_
          refine lv_iload_n hx hb dX2_mend_111 rfl (lv_at hl 2 rfl) ?_
          refine lv_iload hx hb dX2_mend_112 (lv_at hl 1 rfl) ?_
          have sp := cu_sp.all (W0 := (cu_mw C o r q 0 (nI N) mn K)) (W1 := (cu_mw C o r q 0 (nI N) mn (va_up K i (upd (K i) 4 60)))) cu_mw_fst
          refine cu_callV (va_runV (As := [.int (nI i), .int 4, .int 60]) (rest := []) ⟨hx, hb, hml, hown, hts⟩ ((m_X2_put l D C o r q 0 N hN mn K i 4 hi (by decide) 60 (va_up K i (upd (K i) 4 60)) rfl) H.size) (cwV 3 hts gX2_mend_X2_put rfl rfl rfl (by decide +kernel) ⟨Nat.le_of_ble_eq_true rfl, Nat.le_of_ble_eq_true rfl⟩) (cu_preV (ci := 2) sp hG hP hD rfl rfl) rfl rfl hl.1 rfl (lv_room (Nat.le_of_ble_eq_true rfl)) dX2_mend_114 ⟨Nat.le_of_ble_eq_true rfl, Nat.le_of_ble_eq_true rfl⟩) sp hP hD hS hA (fun H locs hP hD hS => ?_)
          have hP : va_P D vwCl (cu_mw C o r q 0 (nI N) mn (va_up K i (upd (K i) 4 60))) H := hP
          have hD : va_D A (cu_mw C o r q 0 (nI N) mn (va_up K i (upd (K i) 4 60))) := hD
          refine lv_iload hx hb dX2_mend_117 (lv_at hl 0 rfl) ?_
          exact fin _ _ _ _ _ rfl (by have e : k_cE N (nI i) v2 = 0 := (by simp (decide := true) only [k_cE, if_neg c_10, if_neg c_25, if_neg c_36, if_neg c_76, if_neg c_86]); rw [e, if_pos rfl, hcl9]; have ev : v2 = 1 := (by rcases k_isE_in c_25 with z | z | z; exact absurd z c_76; exact z; exact absurd z c_36); subst ev; rfl) (by have e : k_cE N (nI i) v2 = 0 := (by simp (decide := true) only [k_cE, if_neg c_10, if_neg c_25, if_neg c_36, if_neg c_76, if_neg c_86]); rw [e, if_pos rfl, hcl9]; have ev : v2 = 1 := (by rcases k_isE_in c_25 with z | z | z; exact absurd z c_76; exact z; exact absurd z c_36); subst ev; exact hP) hS dX2_mend_119
        · refine lv_iconst (v := 3) hx hb dX2_mend_79 (by decide) ?_
          refine lv_goto (tgt := 84) hx hb dX2_mend_80 (by decide) ?_
          refine lv_istore_n (lv' := [(3, .int 3), (0, .ref o), (1, .int (nI i)), (2, .int v2)]) hx hb dX2_mend_84 rfl hl (by decide) rfl (fun ls hl => ?_)
          refine lv_iload_n hx hb dX2_mend_85 rfl (lv_at hl 3 rfl) ?_
          refine lv_if_ne (tgt := 94) hx hb dX2_mend_86 (by decide) (fun c_86 => absurd c_76 c_86) (fun c_86 => ?_)
          refine lv_bipush (v := 100) hx hb dX2_mend_89 (by decide) ?_
          refine lv_goto (tgt := 96) hx hb dX2_mend_91 (by decide) ?_
          refine lv_istore (lv' := [(4, .int 100), (3, .int 3), (0, .ref o), (1, .int (nI i)), (2, .int v2)]) hx hb dX2_mend_96 hl (by decide) rfl (fun ls hl => ?_)
          refine lv_iload hx hb dX2_mend_98 (lv_at hl 0 rfl) ?_
          refine lv_aload_n hx hb dX2_mend_100 rfl (lv_at hl 2 rfl) ?_
          refine lv_iload_n hx hb dX2_mend_101 rfl (lv_at hl 3 rfl) ?_
          refine lv_iload_n hx hb dX2_mend_102 rfl (lv_at hl 1 rfl) ?_
          have sp := cu_sp.all (W0 := (cu_mw C o r q 0 (nI N) mn K)) (W1 := (cu_mw C o r q 0 (nI N) mn K)) rfl
          refine cu_callI (va_runV (As := [.int (nI i), .int 3]) (rest := [.int 100]) ⟨hx, hb, hml, hown, hts⟩ ((m_X2_sh l D C o r q 0 N hN mn K i 3 hi (by decide) (K i 3) rfl) H.size) (cwV 2 hts gX2_mend_X2_sh rfl rfl rfl (by decide +kernel) ⟨Nat.le_of_ble_eq_true rfl, Nat.le_of_ble_eq_true rfl⟩) (cu_preV (ci := 2) sp hG hP hD rfl rfl) rfl rfl hl.1 rfl (lv_room (Nat.le_of_ble_eq_true rfl)) dX2_mend_103 ⟨Nat.le_of_ble_eq_true rfl, Nat.le_of_ble_eq_true rfl⟩) sp hP hD hS hA (fun H locs hP hD hS => ?_)
          have hP : va_P D vwCl (cu_mw C o r q 0 (nI N) mn K) H := hP
          have hD : va_D A (cu_mw C o r q 0 (nI N) mn K) := hD
          refine lv_isub hx hb dX2_mend_106 ?_
          refine lv_istore (lv' := [(5, .int (100 - (K i 3))), (4, .int 100), (3, .int 3), (0, .ref o), (1, .int (nI i)), (2, .int v2)]) hx hb dX2_mend_107 hl (by decide) rfl (fun ls hl => ?_)
          refine lv_aload_n hx hb dX2_mend_109 rfl (lv_at hl 3 rfl) ?_
          refine lv_iload_n hx hb dX2_mend_110 rfl (lv_at hl 4 rfl) ?_
          refine lv_iload_n hx hb dX2_mend_111 rfl (lv_at hl 2 rfl) ?_
          refine lv_iload hx hb dX2_mend_112 (lv_at hl 1 rfl) ?_
          have sp := cu_sp.all (W0 := (cu_mw C o r q 0 (nI N) mn K)) (W1 := (cu_mw C o r q 0 (nI N) mn (va_up K i (upd (K i) 3 100)))) cu_mw_fst
          refine cu_callV (va_runV (As := [.int (nI i), .int 3, .int 100]) (rest := []) ⟨hx, hb, hml, hown, hts⟩ ((m_X2_put l D C o r q 0 N hN mn K i 3 hi (by decide) 100 (va_up K i (upd (K i) 3 100)) rfl) H.size) (cwV 3 hts gX2_mend_X2_put rfl rfl rfl (by decide +kernel) ⟨Nat.le_of_ble_eq_true rfl, Nat.le_of_ble_eq_true rfl⟩) (cu_preV (ci := 2) sp hG hP hD rfl rfl) rfl rfl hl.1 rfl (lv_room (Nat.le_of_ble_eq_true rfl)) dX2_mend_114 ⟨Nat.le_of_ble_eq_true rfl, Nat.le_of_ble_eq_true rfl⟩) sp hP hD hS hA (fun H locs hP hD hS => ?_)
          have hP : va_P D vwCl (cu_mw C o r q 0 (nI N) mn (va_up K i (upd (K i) 3 100))) H := hP
          have hD : va_D A (cu_mw C o r q 0 (nI N) mn (va_up K i (upd (K i) 3 100))) := hD
          refine lv_iload hx hb dX2_mend_117 (lv_at hl 0 rfl) ?_
          exact fin _ _ _ _ _ rfl (by have e : k_cE N (nI i) v2 = 0 := (by simp (decide := true) only [k_cE, if_neg c_10, if_neg c_25, if_neg c_36, if_pos c_76, if_pos c_86]); rw [e, if_pos rfl, hcl9]; have ev := c_76; subst ev; rfl) (by have e : k_cE N (nI i) v2 = 0 := (by simp (decide := true) only [k_cE, if_neg c_10, if_neg c_25, if_neg c_36, if_pos c_76, if_pos c_86]); rw [e, if_pos rfl, hcl9]; have ev := c_76; subst ev; exact hP) hS dX2_mend_119
      · refine lv_aload_n hx hb dX2_mend_39 rfl (lv_at hl 0 rfl) ?_
        refine lv_iload_n hx hb dX2_mend_40 rfl (lv_at hl 1 rfl) ?_
        refine lv_iconst (v := 5) hx hb dX2_mend_41 (by decide) ?_
        refine lv_aload_n hx hb dX2_mend_42 rfl (lv_at hl 0 rfl) ?_
        refine lv_iload_n hx hb dX2_mend_43 rfl (lv_at hl 1 rfl) ?_
        refine lv_iconst (v := 5) hx hb dX2_mend_44 (by decide) ?_
        have sp := cu_sp.all (W0 := (cu_mw C o r q 0 (nI N) mn K)) (W1 := (cu_mw C o r q 0 (nI N) mn K)) rfl
        refine cu_callI (va_runV (As := [.int (nI i), .int 5]) (rest := [.int 5, .int (nI i), .ref o]) ⟨hx, hb, hml, hown, hts⟩ ((m_X2_sh l D C o r q 0 N hN mn K i 5 hi (by decide) (K i 5) rfl) H.size) (cwV 2 hts gX2_mend_X2_sh rfl rfl rfl (by decide +kernel) ⟨Nat.le_of_ble_eq_true rfl, Nat.le_of_ble_eq_true rfl⟩) (cu_preV (ci := 2) sp hG hP hD rfl rfl) rfl rfl hl.1 rfl (lv_room (Nat.le_of_ble_eq_true rfl)) dX2_mend_45 ⟨Nat.le_of_ble_eq_true rfl, Nat.le_of_ble_eq_true rfl⟩) sp hP hD hS hA (fun H locs hP hD hS => ?_)
        have hP : va_P D vwCl (cu_mw C o r q 0 (nI N) mn K) H := hP
        have hD : va_D A (cu_mw C o r q 0 (nI N) mn K) := hD
        refine lv_if_ne (tgt := 64) hx hb dX2_mend_48 (by decide) (fun c_48 => ?_) (fun c_48 => ?_)
        · refine lv_iconst (v := 0) hx hb dX2_mend_64 (by decide) ?_
          have sp := cu_sp.all (W0 := (cu_mw C o r q 0 (nI N) mn K)) (W1 := (cu_mw C o r q 0 (nI N) mn (va_up K i (upd (K i) 5 0)))) cu_mw_fst
          refine cu_callV (va_runV (As := [.int (nI i), .int 5, .int 0]) (rest := []) ⟨hx, hb, hml, hown, hts⟩ ((m_X2_put l D C o r q 0 N hN mn K i 5 hi (by decide) 0 (va_up K i (upd (K i) 5 0)) rfl) H.size) (cwV 3 hts gX2_mend_X2_put rfl rfl rfl (by decide +kernel) ⟨Nat.le_of_ble_eq_true rfl, Nat.le_of_ble_eq_true rfl⟩) (cu_preV (ci := 2) sp hG hP hD rfl rfl) rfl rfl hl.1 rfl (lv_room (Nat.le_of_ble_eq_true rfl)) dX2_mend_65 ⟨Nat.le_of_ble_eq_true rfl, Nat.le_of_ble_eq_true rfl⟩) sp hP hD hS hA (fun H locs hP hD hS => ?_)
          have hP : va_P D vwCl (cu_mw C o r q 0 (nI N) mn (va_up K i (upd (K i) 5 0))) H := hP
          have hD : va_D A (cu_mw C o r q 0 (nI N) mn (va_up K i (upd (K i) 5 0))) := hD
          refine lv_aload_n hx hb dX2_mend_68 rfl (lv_at hl 0 rfl) ?_
          refine lv_iload_n hx hb dX2_mend_69 rfl (lv_at hl 1 rfl) ?_
          refine lv_iconst (v := 5) hx hb dX2_mend_70 (by decide) ?_
          have sp := cu_sp.all (W0 := (cu_mw C o r q 0 (nI N) mn (va_up K i (upd (K i) 5 0)))) (W1 := (cu_mw C o r q 0 (nI N) mn (va_up K i (upd (K i) 5 0)))) rfl
          refine cu_callI (va_runV (As := [.int (nI i), .int 5]) (rest := []) ⟨hx, hb, hml, hown, hts⟩ ((m_X2_sh l D C o r q 0 N hN mn (va_up K i (upd (K i) 5 0)) i 5 hi (by decide) 0 ((congrFun (va_up_self K i (upd (K i) 5 0)) 5).trans rfl)) H.size) (cwV 2 hts gX2_mend_X2_sh rfl rfl rfl (by decide +kernel) ⟨Nat.le_of_ble_eq_true rfl, Nat.le_of_ble_eq_true rfl⟩) (cu_preV (ci := 2) sp hG hP hD rfl rfl) rfl rfl hl.1 rfl (lv_room (Nat.le_of_ble_eq_true rfl)) dX2_mend_71 ⟨Nat.le_of_ble_eq_true rfl, Nat.le_of_ble_eq_true rfl⟩) sp hP hD hS hA (fun H locs hP hD hS => ?_)
          have hP : va_P D vwCl (cu_mw C o r q 0 (nI N) mn (va_up K i (upd (K i) 5 0))) H := hP
          have hD : va_D A (cu_mw C o r q 0 (nI N) mn (va_up K i (upd (K i) 5 0))) := hD
          exact fin _ _ _ _ _ rfl (by have e : k_cE N (nI i) v2 = 0 := (by simp (decide := true) only [k_cE, if_neg c_10, if_neg c_25, if_pos c_36, if_neg c_48]); rw [e, if_pos rfl, hcl9]; have ev := c_36; subst ev; have en : k_nudge (K i) = 0 := (by rw [k_nudge_M (hok i hiN)]; simp only [if_neg c_48]); show _ = k_nudge (K i); rw [en]) (by have e : k_cE N (nI i) v2 = 0 := (by simp (decide := true) only [k_cE, if_neg c_10, if_neg c_25, if_pos c_36, if_neg c_48]); rw [e, if_pos rfl, hcl9]; have ev := c_36; subst ev; have en : k_nudge (K i) = 0 := (by rw [k_nudge_M (hok i hiN)]; simp only [if_neg c_48]); show va_P D vwCl (cu_mw C o r q 0 (nI N) mn (va_up K i (upd (K i) 5 (k_nudge (K i))))) _; rw [en]; exact hP) hS dX2_mend_74
        · refine lv_aload_n hx hb dX2_mend_51 rfl (lv_at hl 0 rfl) ?_
          refine lv_iload_n hx hb dX2_mend_52 rfl (lv_at hl 1 rfl) ?_
          refine lv_iconst (v := 2) hx hb dX2_mend_53 (by decide) ?_
          have sp := cu_sp.all (W0 := (cu_mw C o r q 0 (nI N) mn K)) (W1 := (cu_mw C o r q 0 (nI N) mn K)) rfl
          refine cu_callI (va_runV (As := [.int (nI i), .int 2]) (rest := [.int 5, .int (nI i), .ref o]) ⟨hx, hb, hml, hown, hts⟩ ((m_X2_sh l D C o r q 0 N hN mn K i 2 hi (by decide) (K i 2) rfl) H.size) (cwV 2 hts gX2_mend_X2_sh rfl rfl rfl (by decide +kernel) ⟨Nat.le_of_ble_eq_true rfl, Nat.le_of_ble_eq_true rfl⟩) (cu_preV (ci := 2) sp hG hP hD rfl rfl) rfl rfl hl.1 rfl (lv_room (Nat.le_of_ble_eq_true rfl)) dX2_mend_54 ⟨Nat.le_of_ble_eq_true rfl, Nat.le_of_ble_eq_true rfl⟩) sp hP hD hS hA (fun H locs hP hD hS => ?_)
          have hP : va_P D vwCl (cu_mw C o r q 0 (nI N) mn K) H := hP
          have hD : va_D A (cu_mw C o r q 0 (nI N) mn K) := hD
          refine lv_if_le (tgt := 64) hx hb dX2_mend_57 (by decide) (fun c_57 => ?_) (fun c_57 => ?_)
          · refine lv_iconst (v := 0) hx hb dX2_mend_64 (by decide) ?_
            have sp := cu_sp.all (W0 := (cu_mw C o r q 0 (nI N) mn K)) (W1 := (cu_mw C o r q 0 (nI N) mn (va_up K i (upd (K i) 5 0)))) cu_mw_fst
            refine cu_callV (va_runV (As := [.int (nI i), .int 5, .int 0]) (rest := []) ⟨hx, hb, hml, hown, hts⟩ ((m_X2_put l D C o r q 0 N hN mn K i 5 hi (by decide) 0 (va_up K i (upd (K i) 5 0)) rfl) H.size) (cwV 3 hts gX2_mend_X2_put rfl rfl rfl (by decide +kernel) ⟨Nat.le_of_ble_eq_true rfl, Nat.le_of_ble_eq_true rfl⟩) (cu_preV (ci := 2) sp hG hP hD rfl rfl) rfl rfl hl.1 rfl (lv_room (Nat.le_of_ble_eq_true rfl)) dX2_mend_65 ⟨Nat.le_of_ble_eq_true rfl, Nat.le_of_ble_eq_true rfl⟩) sp hP hD hS hA (fun H locs hP hD hS => ?_)
            have hP : va_P D vwCl (cu_mw C o r q 0 (nI N) mn (va_up K i (upd (K i) 5 0))) H := hP
            have hD : va_D A (cu_mw C o r q 0 (nI N) mn (va_up K i (upd (K i) 5 0))) := hD
            refine lv_aload_n hx hb dX2_mend_68 rfl (lv_at hl 0 rfl) ?_
            refine lv_iload_n hx hb dX2_mend_69 rfl (lv_at hl 1 rfl) ?_
            refine lv_iconst (v := 5) hx hb dX2_mend_70 (by decide) ?_
            have sp := cu_sp.all (W0 := (cu_mw C o r q 0 (nI N) mn (va_up K i (upd (K i) 5 0)))) (W1 := (cu_mw C o r q 0 (nI N) mn (va_up K i (upd (K i) 5 0)))) rfl
            refine cu_callI (va_runV (As := [.int (nI i), .int 5]) (rest := []) ⟨hx, hb, hml, hown, hts⟩ ((m_X2_sh l D C o r q 0 N hN mn (va_up K i (upd (K i) 5 0)) i 5 hi (by decide) 0 ((congrFun (va_up_self K i (upd (K i) 5 0)) 5).trans rfl)) H.size) (cwV 2 hts gX2_mend_X2_sh rfl rfl rfl (by decide +kernel) ⟨Nat.le_of_ble_eq_true rfl, Nat.le_of_ble_eq_true rfl⟩) (cu_preV (ci := 2) sp hG hP hD rfl rfl) rfl rfl hl.1 rfl (lv_room (Nat.le_of_ble_eq_true rfl)) dX2_mend_71 ⟨Nat.le_of_ble_eq_true rfl, Nat.le_of_ble_eq_true rfl⟩) sp hP hD hS hA (fun H locs hP hD hS => ?_)
            have hP : va_P D vwCl (cu_mw C o r q 0 (nI N) mn (va_up K i (upd (K i) 5 0))) H := hP
            have hD : va_D A (cu_mw C o r q 0 (nI N) mn (va_up K i (upd (K i) 5 0))) := hD
            exact fin _ _ _ _ _ rfl (by have e : k_cE N (nI i) v2 = 0 := (by simp (decide := true) only [k_cE, if_neg c_10, if_neg c_25, if_pos c_36, if_pos c_48, if_pos c_57]); rw [e, if_pos rfl, hcl9]; have ev := c_36; subst ev; have en : k_nudge (K i) = 0 := (by rw [k_nudge_M (hok i hiN)]; simp only [if_pos c_48, if_pos c_57]); show _ = k_nudge (K i); rw [en]) (by have e : k_cE N (nI i) v2 = 0 := (by simp (decide := true) only [k_cE, if_neg c_10, if_neg c_25, if_pos c_36, if_pos c_48, if_pos c_57]); rw [e, if_pos rfl, hcl9]; have ev := c_36; subst ev; have en : k_nudge (K i) = 0 := (by rw [k_nudge_M (hok i hiN)]; simp only [if_pos c_48, if_pos c_57]); show va_P D vwCl (cu_mw C o r q 0 (nI N) mn (va_up K i (upd (K i) 5 (k_nudge (K i))))) _; rw [en]; exact hP) hS dX2_mend_74
          · refine lv_iconst (v := 1) hx hb dX2_mend_60 (by decide) ?_
            refine lv_goto (tgt := 65) hx hb dX2_mend_61 (by decide) ?_
            have sp := cu_sp.all (W0 := (cu_mw C o r q 0 (nI N) mn K)) (W1 := (cu_mw C o r q 0 (nI N) mn (va_up K i (upd (K i) 5 1)))) cu_mw_fst
            refine cu_callV (va_runV (As := [.int (nI i), .int 5, .int 1]) (rest := []) ⟨hx, hb, hml, hown, hts⟩ ((m_X2_put l D C o r q 0 N hN mn K i 5 hi (by decide) 1 (va_up K i (upd (K i) 5 1)) rfl) H.size) (cwV 3 hts gX2_mend_X2_put rfl rfl rfl (by decide +kernel) ⟨Nat.le_of_ble_eq_true rfl, Nat.le_of_ble_eq_true rfl⟩) (cu_preV (ci := 2) sp hG hP hD rfl rfl) rfl rfl hl.1 rfl (lv_room (Nat.le_of_ble_eq_true rfl)) dX2_mend_65 ⟨Nat.le_of_ble_eq_true rfl, Nat.le_of_ble_eq_true rfl⟩) sp hP hD hS hA (fun H locs hP hD hS => ?_)
            have hP : va_P D vwCl (cu_mw C o r q 0 (nI N) mn (va_up K i (upd (K i) 5 1))) H := hP
            have hD : va_D A (cu_mw C o r q 0 (nI N) mn (va_up K i (upd (K i) 5 1))) := hD
            refine lv_aload_n hx hb dX2_mend_68 rfl (lv_at hl 0 rfl) ?_
            refine lv_iload_n hx hb dX2_mend_69 rfl (lv_at hl 1 rfl) ?_
            refine lv_iconst (v := 5) hx hb dX2_mend_70 (by decide) ?_
            have sp := cu_sp.all (W0 := (cu_mw C o r q 0 (nI N) mn (va_up K i (upd (K i) 5 1)))) (W1 := (cu_mw C o r q 0 (nI N) mn (va_up K i (upd (K i) 5 1)))) rfl
            refine cu_callI (va_runV (As := [.int (nI i), .int 5]) (rest := []) ⟨hx, hb, hml, hown, hts⟩ ((m_X2_sh l D C o r q 0 N hN mn (va_up K i (upd (K i) 5 1)) i 5 hi (by decide) 1 ((congrFun (va_up_self K i (upd (K i) 5 1)) 5).trans rfl)) H.size) (cwV 2 hts gX2_mend_X2_sh rfl rfl rfl (by decide +kernel) ⟨Nat.le_of_ble_eq_true rfl, Nat.le_of_ble_eq_true rfl⟩) (cu_preV (ci := 2) sp hG hP hD rfl rfl) rfl rfl hl.1 rfl (lv_room (Nat.le_of_ble_eq_true rfl)) dX2_mend_71 ⟨Nat.le_of_ble_eq_true rfl, Nat.le_of_ble_eq_true rfl⟩) sp hP hD hS hA (fun H locs hP hD hS => ?_)
            have hP : va_P D vwCl (cu_mw C o r q 0 (nI N) mn (va_up K i (upd (K i) 5 1))) H := hP
            have hD : va_D A (cu_mw C o r q 0 (nI N) mn (va_up K i (upd (K i) 5 1))) := hD
            exact fin _ _ _ _ _ rfl (by have e : k_cE N (nI i) v2 = 0 := (by simp (decide := true) only [k_cE, if_neg c_10, if_neg c_25, if_pos c_36, if_pos c_48, if_neg c_57]); rw [e, if_pos rfl, hcl9]; have ev := c_36; subst ev; have en : k_nudge (K i) = 1 := (by rw [k_nudge_M (hok i hiN)]; simp only [if_pos c_48, if_neg c_57]); show _ = k_nudge (K i); rw [en]) (by have e : k_cE N (nI i) v2 = 0 := (by simp (decide := true) only [k_cE, if_neg c_10, if_neg c_25, if_pos c_36, if_pos c_48, if_neg c_57]); rw [e, if_pos rfl, hcl9]; have ev := c_36; subst ev; have en : k_nudge (K i) = 1 := (by rw [k_nudge_M (hok i hiN)]; simp only [if_pos c_48, if_neg c_57]); show va_P D vwCl (cu_mw C o r q 0 (nI N) mn (va_up K i (upd (K i) 5 (k_nudge (K i))))) _; rw [en]; exact hP) hS dX2_mend_74
    · refine lv_aload_n hx hb dX2_mend_28 rfl (lv_at hl 0 rfl) ?_
      refine lv_iconst (v := 2) hx hb dX2_mend_29 (by decide) ?_
      have sp := cu_sp.all (W0 := (cu_mw C o r q 0 (nI N) mn K)) (W1 := (cu_mw C o r q 2 (nI N) mn K)) cu_mw_fst
      refine cu_callI (va_runV (As := [.int 2]) (rest := []) ⟨hx, hb, hml, hown, hts⟩ ((m_X2_fail l D C o r q 0 N hN mn K 2) H.size) (cwV 1 hts gX2_mend_X2_fail rfl rfl rfl (by decide +kernel) ⟨Nat.le_of_ble_eq_true rfl, Nat.le_of_ble_eq_true rfl⟩) (cu_preV (ci := 2) sp hG hP hD rfl rfl) rfl rfl hl.1 rfl (lv_room (Nat.le_of_ble_eq_true rfl)) dX2_mend_30 ⟨Nat.le_of_ble_eq_true rfl, Nat.le_of_ble_eq_true rfl⟩) sp hP hD hS hA (fun H locs hP hD hS => ?_)
      have hP : va_P D vwCl (cu_mw C o r q 2 (nI N) mn K) H := hP
      have hD : va_D A (cu_mw C o r q 2 (nI N) mn K) := hD
      exact fin _ _ _ _ _ rfl (by have e : k_cE N (nI i) v2 = 2 := (by simp (decide := true) only [k_cE, if_neg c_10, if_pos c_25]); rw [e, if_neg (by decide)]) (by have e : k_cE N (nI i) v2 = 2 := (by simp (decide := true) only [k_cE, if_neg c_10, if_pos c_25]); rw [e, if_neg (by decide)]; exact hP) hS dX2_mend_33
  · refine lv_aload_n hx hb dX2_mend_13 rfl (lv_at hl 0 rfl) ?_
    refine lv_iconst (v := 1) hx hb dX2_mend_14 (by decide) ?_
    have sp := cu_sp.all (W0 := (cu_mw C o r q 0 (nI N) mn K)) (W1 := (cu_mw C o r q 1 (nI N) mn K)) cu_mw_fst
    refine cu_callI (va_runV (As := [.int 1]) (rest := []) ⟨hx, hb, hml, hown, hts⟩ ((m_X2_fail l D C o r q 0 N hN mn K 1) H.size) (cwV 1 hts gX2_mend_X2_fail rfl rfl rfl (by decide +kernel) ⟨Nat.le_of_ble_eq_true rfl, Nat.le_of_ble_eq_true rfl⟩) (cu_preV (ci := 2) sp hG hP hD rfl rfl) rfl rfl hl.1 rfl (lv_room (Nat.le_of_ble_eq_true rfl)) dX2_mend_15 ⟨Nat.le_of_ble_eq_true rfl, Nat.le_of_ble_eq_true rfl⟩) sp hP hD hS hA (fun H locs hP hD hS => ?_)
    have hP : va_P D vwCl (cu_mw C o r q 1 (nI N) mn K) H := hP
    have hD : va_D A (cu_mw C o r q 1 (nI N) mn K) := hD
    exact fin _ _ _ _ _ rfl (by have e : k_cE N v1 v2 = 1 := (by simp (decide := true) only [k_cE, if_pos c_10]); rw [e, if_neg (by decide)]) (by have e : k_cE N v1 v2 = 1 := (by simp (decide := true) only [k_cE, if_pos c_10]); rw [e, if_neg (by decide)]; exact hP) hS dX2_mend_18

set_option maxHeartbeats 4000000 in
set_option maxRecDepth 100000 in
theorem m_X2_shut (l : Launch) (D : va_G) (C : Nat → ClassId) (o r q : Nat) (th : Int32) (N : Nat) (hN : N ≤ 10) (mn : Int32) (K : Nat → Nat → Int32) (v1 : Int32) (v2 : Int32) (v3 : Int32) : cu_I l D C yX2_shut wsX2_shut { frames := 2, cells := 0, slots := 0, locals := 43 } [.ref o, .int v1, .int v2, .int v3] (cu_mw C o r q th (nI N) mn K) (cu_mw C o r q (k_cH N v1 v2 v3) (nI N) mn (if k_cH N v1 v2 v3 = 0 then va_up K v1.toNatClampNeg (upd (upd (K v1.toNatClampNeg) 12 v2) 13 v3) else K)) (if k_cH N v1 v2 v3 = 0 then K v1.toNatClampNeg 12 else 0) 0 0 := by
  refine cu_openI (cc := cX2_shut) (maxL := 5) (ty := .int) (own := RX2) (by decide) rfl rfl (Nat.le_of_ble_eq_true rfl) ?_
  intro p e s m args below meth c A Z H0 ls e0 hx hb hml hts hown hnm hG hP hD hS hA hl fin
  have hK := hG.1
  have hl : lv_has ls 5 [(0, .ref o), (1, .int v1), (2, .int v2), (3, .int v3)] := hl
  have hiX2 : ∀ w ∈ wsX20, w ∈ wsX2_shut := by decide +kernel
  refine lv_aload_n hx hb dX2_shut_0 rfl (lv_at hl 0 rfl) ?_
  refine lv_iconst (v := 0) hx hb dX2_shut_1 (by decide) ?_
  refine va_put (D := D) (ci := 2) (v := .int 0) (ty := .int) (C := RX2) (T := TX2) (N := 4) hx hb hts hiX2 tyX2 tyX2_ok nmX2 hown hK hP hD hS 0 rfl rfl 0 (by decide) (hts (.fieldLink RX2 16 "CuckooShopModel" "thrown" "I") (by decide +kernel)) (fun _ h9 => h9) rfl (by decide +kernel) rfl rfl (Nat.le_of_ble_eq_true rfl) dX2_shut_2 (fun H locs hP hD hS => ?_)
  have hP : va_P D vwCl (cu_mw C o r q 0 (nI N) mn K) H := hP
  have hD : va_D A (cu_mw C o r q 0 (nI N) mn K) := hD
  refine lv_aload_n hx hb dX2_shut_5 rfl (lv_at hl 0 rfl) ?_
  refine lv_iload_n hx hb dX2_shut_6 rfl (lv_at hl 1 rfl) ?_
  have sp := cu_sp.all (W0 := (cu_mw C o r q 0 (nI N) mn K)) (W1 := (cu_mw C o r q 0 (nI N) mn K)) rfl
  refine cu_callI (va_runV (As := [.int v1]) (rest := []) ⟨hx, hb, hml, hown, hts⟩ ((m_X2_isClock l D C o r q 0 N hN mn K v1) H.size) (cwV 1 hts gX2_shut_X2_isClock rfl rfl rfl (by decide +kernel) ⟨Nat.le_of_ble_eq_true rfl, Nat.le_of_ble_eq_true rfl⟩) (cu_preV (ci := 2) sp hG hP hD rfl rfl) rfl rfl hl.1 rfl (lv_room (Nat.le_of_ble_eq_true rfl)) dX2_shut_7 ⟨Nat.le_of_ble_eq_true rfl, Nat.le_of_ble_eq_true rfl⟩) sp hP hD hS hA (fun H locs hP hD hS => ?_)
  have hP : va_P D vwCl (cu_mw C o r q 0 (nI N) mn K) H := hP
  have hD : va_D A (cu_mw C o r q 0 (nI N) mn K) := hD
  refine lv_if_ne (tgt := 19) hx hb dX2_shut_10 (by decide) (fun c_10 => ?_) (fun c_10 => ?_)
  · obtain ⟨i, hiN, rfl⟩ := k_isC_in hN c_10
    have hi : i < 10 := by omega
    have hcl9 : (nI i).toNatClampNeg = i := nI_clamp (by omega)
    refine lv_iload_n hx hb dX2_shut_19 rfl (lv_at hl 2 rfl) ?_
    refine lv_iconst (v := -1) hx hb dX2_shut_20 (by decide) ?_
    refine lv_sipush (v := 719) hx hb dX2_shut_21 (by decide) ?_
    have sp := cu_sp.nil (W0 := (cu_mw C o r q 0 (nI N) mn K))
    refine cu_callI (va_runS (As := [.int v2, .int (-1), .int 719]) (rest := []) ⟨hx, hb, hml, hown, hts⟩ ((m_X2_isIn l D C v2 (-1) 719) H.size) (va_cwS 3 hts gX2_shut_X2_isIn rfl rfl rfl (by decide +kernel) ⟨Nat.le_of_ble_eq_true rfl, Nat.le_of_ble_eq_true rfl⟩) (cu_preS sp hG hP hD) rfl rfl hl.1 rfl (lv_room (Nat.le_of_ble_eq_true rfl)) dX2_shut_24 ⟨Nat.le_of_ble_eq_true rfl, Nat.le_of_ble_eq_true rfl⟩) sp hP hD hS hA (fun H locs hP hD hS => ?_)
    refine lv_if_eq (tgt := 50) hx hb dX2_shut_27 (by decide) (fun c_27 => ?_) (fun c_27 => ?_)
    · refine lv_aload_n hx hb dX2_shut_50 rfl (lv_at hl 0 rfl) ?_
      refine lv_iconst (v := 2) hx hb dX2_shut_51 (by decide) ?_
      have sp := cu_sp.all (W0 := (cu_mw C o r q 0 (nI N) mn K)) (W1 := (cu_mw C o r q 2 (nI N) mn K)) cu_mw_fst
      refine cu_callI (va_runV (As := [.int 2]) (rest := []) ⟨hx, hb, hml, hown, hts⟩ ((m_X2_fail l D C o r q 0 N hN mn K 2) H.size) (cwV 1 hts gX2_shut_X2_fail rfl rfl rfl (by decide +kernel) ⟨Nat.le_of_ble_eq_true rfl, Nat.le_of_ble_eq_true rfl⟩) (cu_preV (ci := 2) sp hG hP hD rfl rfl) rfl rfl hl.1 rfl (lv_room (Nat.le_of_ble_eq_true rfl)) dX2_shut_52 ⟨Nat.le_of_ble_eq_true rfl, Nat.le_of_ble_eq_true rfl⟩) sp hP hD hS hA (fun H locs hP hD hS => ?_)
      have hP : va_P D vwCl (cu_mw C o r q 2 (nI N) mn K) H := hP
      have hD : va_D A (cu_mw C o r q 2 (nI N) mn K) := hD
      exact fin _ _ _ _ _ rfl (by have e : k_cH N (nI i) v2 v3 = 2 := (by simp (decide := true) only [k_cH, if_neg c_10, if_pos c_27]); rw [e, if_neg (by decide)]) (by have e : k_cH N (nI i) v2 v3 = 2 := (by simp (decide := true) only [k_cH, if_neg c_10, if_pos c_27]); rw [e, if_neg (by decide)]; exact hP) hS dX2_shut_55
    · refine lv_iload_n hx hb dX2_shut_30 rfl (lv_at hl 3 rfl) ?_
      refine lv_iconst (v := 0) hx hb dX2_shut_31 (by decide) ?_
      refine lv_sipush (v := 719) hx hb dX2_shut_32 (by decide) ?_
      have sp := cu_sp.nil (W0 := (cu_mw C o r q 0 (nI N) mn K))
      refine cu_callI (va_runS (As := [.int v3, .int 0, .int 719]) (rest := []) ⟨hx, hb, hml, hown, hts⟩ ((m_X2_isIn l D C v3 0 719) H.size) (va_cwS 3 hts gX2_shut_X2_isIn rfl rfl rfl (by decide +kernel) ⟨Nat.le_of_ble_eq_true rfl, Nat.le_of_ble_eq_true rfl⟩) (cu_preS sp hG hP hD) rfl rfl hl.1 rfl (lv_room (Nat.le_of_ble_eq_true rfl)) dX2_shut_35 ⟨Nat.le_of_ble_eq_true rfl, Nat.le_of_ble_eq_true rfl⟩) sp hP hD hS hA (fun H locs hP hD hS => ?_)
      refine lv_if_eq (tgt := 50) hx hb dX2_shut_38 (by decide) (fun c_38 => ?_) (fun c_38 => ?_)
      · refine lv_aload_n hx hb dX2_shut_50 rfl (lv_at hl 0 rfl) ?_
        refine lv_iconst (v := 2) hx hb dX2_shut_51 (by decide) ?_
        have sp := cu_sp.all (W0 := (cu_mw C o r q 0 (nI N) mn K)) (W1 := (cu_mw C o r q 2 (nI N) mn K)) cu_mw_fst
        refine cu_callI (va_runV (As := [.int 2]) (rest := []) ⟨hx, hb, hml, hown, hts⟩ ((m_X2_fail l D C o r q 0 N hN mn K 2) H.size) (cwV 1 hts gX2_shut_X2_fail rfl rfl rfl (by decide +kernel) ⟨Nat.le_of_ble_eq_true rfl, Nat.le_of_ble_eq_true rfl⟩) (cu_preV (ci := 2) sp hG hP hD rfl rfl) rfl rfl hl.1 rfl (lv_room (Nat.le_of_ble_eq_true rfl)) dX2_shut_52 ⟨Nat.le_of_ble_eq_true rfl, Nat.le_of_ble_eq_true rfl⟩) sp hP hD hS hA (fun H locs hP hD hS => ?_)
        have hP : va_P D vwCl (cu_mw C o r q 2 (nI N) mn K) H := hP
        have hD : va_D A (cu_mw C o r q 2 (nI N) mn K) := hD
        exact fin _ _ _ _ _ rfl (by have e : k_cH N (nI i) v2 v3 = 2 := (by simp (decide := true) only [k_cH, if_neg c_10, if_neg c_27, if_pos c_38]); rw [e, if_neg (by decide)]) (by have e : k_cH N (nI i) v2 v3 = 2 := (by simp (decide := true) only [k_cH, if_neg c_10, if_neg c_27, if_pos c_38]); rw [e, if_neg (by decide)]; exact hP) hS dX2_shut_55
      · refine lv_iload_n hx hb dX2_shut_41 rfl (lv_at hl 2 rfl) ?_
        refine lv_iconst (v := -1) hx hb dX2_shut_42 (by decide) ?_
        refine lv_icmp_ne (tgt := 56) hx hb dX2_shut_43 (by decide) (fun c_43 => ?_) (fun c_43 => ?_)
        · refine lv_aload_n hx hb dX2_shut_56 rfl (lv_at hl 0 rfl) ?_
          refine lv_iload_n hx hb dX2_shut_57 rfl (lv_at hl 1 rfl) ?_
          refine lv_bipush (v := 12) hx hb dX2_shut_58 (by decide) ?_
          have sp := cu_sp.all (W0 := (cu_mw C o r q 0 (nI N) mn K)) (W1 := (cu_mw C o r q 0 (nI N) mn K)) rfl
          refine cu_callI (va_runV (As := [.int (nI i), .int 12]) (rest := []) ⟨hx, hb, hml, hown, hts⟩ ((m_X2_sh l D C o r q 0 N hN mn K i 12 hi (by decide) (K i 12) rfl) H.size) (cwV 2 hts gX2_shut_X2_sh rfl rfl rfl (by decide +kernel) ⟨Nat.le_of_ble_eq_true rfl, Nat.le_of_ble_eq_true rfl⟩) (cu_preV (ci := 2) sp hG hP hD rfl rfl) rfl rfl hl.1 rfl (lv_room (Nat.le_of_ble_eq_true rfl)) dX2_shut_60 ⟨Nat.le_of_ble_eq_true rfl, Nat.le_of_ble_eq_true rfl⟩) sp hP hD hS hA (fun H locs hP hD hS => ?_)
          have hP : va_P D vwCl (cu_mw C o r q 0 (nI N) mn K) H := hP
          have hD : va_D A (cu_mw C o r q 0 (nI N) mn K) := hD
          refine lv_istore (lv' := [(4, .int (K i 12)), (0, .ref o), (1, .int (nI i)), (2, .int v2), (3, .int v3)]) hx hb dX2_shut_63 hl (by decide) rfl (fun ls hl => ?_)
          refine lv_aload_n hx hb dX2_shut_65 rfl (lv_at hl 1 rfl) ?_
          refine lv_iload_n hx hb dX2_shut_66 rfl (lv_at hl 2 rfl) ?_
          refine lv_bipush (v := 12) hx hb dX2_shut_67 (by decide) ?_
          refine lv_iload_n hx hb dX2_shut_69 rfl (lv_at hl 3 rfl) ?_
          have sp := cu_sp.all (W0 := (cu_mw C o r q 0 (nI N) mn K)) (W1 := (cu_mw C o r q 0 (nI N) mn (va_up K i (upd (K i) 12 v2)))) cu_mw_fst
          refine cu_callV (va_runV (As := [.int (nI i), .int 12, .int v2]) (rest := []) ⟨hx, hb, hml, hown, hts⟩ ((m_X2_put l D C o r q 0 N hN mn K i 12 hi (by decide) v2 (va_up K i (upd (K i) 12 v2)) rfl) H.size) (cwV 3 hts gX2_shut_X2_put rfl rfl rfl (by decide +kernel) ⟨Nat.le_of_ble_eq_true rfl, Nat.le_of_ble_eq_true rfl⟩) (cu_preV (ci := 2) sp hG hP hD rfl rfl) rfl rfl hl.1 rfl (lv_room (Nat.le_of_ble_eq_true rfl)) dX2_shut_70 ⟨Nat.le_of_ble_eq_true rfl, Nat.le_of_ble_eq_true rfl⟩) sp hP hD hS hA (fun H locs hP hD hS => ?_)
          have hP : va_P D vwCl (cu_mw C o r q 0 (nI N) mn (va_up K i (upd (K i) 12 v2))) H := hP
          have hD : va_D A (cu_mw C o r q 0 (nI N) mn (va_up K i (upd (K i) 12 v2))) := hD
          refine lv_aload_n hx hb dX2_shut_73 rfl (lv_at hl 1 rfl) ?_
          refine lv_iload_n hx hb dX2_shut_74 rfl (lv_at hl 2 rfl) ?_
          refine lv_bipush (v := 13) hx hb dX2_shut_75 (by decide) ?_
          refine lv_iload_n hx hb dX2_shut_77 rfl (lv_at hl 4 rfl) ?_
          have sp := cu_sp.all (W0 := (cu_mw C o r q 0 (nI N) mn (va_up K i (upd (K i) 12 v2)))) (W1 := (cu_mw C o r q 0 (nI N) mn (va_up K i (upd (upd (K i) 12 v2) 13 v3)))) cu_mw_fst
          refine cu_callV (va_runV (As := [.int (nI i), .int 13, .int v3]) (rest := []) ⟨hx, hb, hml, hown, hts⟩ ((m_X2_put l D C o r q 0 N hN mn (va_up K i (upd (K i) 12 v2)) i 13 hi (by decide) v3 (va_up K i (upd (upd (K i) 12 v2) 13 v3)) (by rw [va_up_self, bx_uu])) H.size) (cwV 3 hts gX2_shut_X2_put rfl rfl rfl (by decide +kernel) ⟨Nat.le_of_ble_eq_true rfl, Nat.le_of_ble_eq_true rfl⟩) (cu_preV (ci := 2) sp hG hP hD rfl rfl) rfl rfl hl.1 rfl (lv_room (Nat.le_of_ble_eq_true rfl)) dX2_shut_78 ⟨Nat.le_of_ble_eq_true rfl, Nat.le_of_ble_eq_true rfl⟩) sp hP hD hS hA (fun H locs hP hD hS => ?_)
          have hP : va_P D vwCl (cu_mw C o r q 0 (nI N) mn (va_up K i (upd (upd (K i) 12 v2) 13 v3))) H := hP
          have hD : va_D A (cu_mw C o r q 0 (nI N) mn (va_up K i (upd (upd (K i) 12 v2) 13 v3))) := hD
          refine lv_iload hx hb dX2_shut_81 (lv_at hl 0 rfl) ?_
          exact fin _ _ _ _ _ rfl (by have e : k_cH N (nI i) v2 v3 = 0 := (by simp (decide := true) only [k_cH, if_neg c_10, if_neg c_27, if_neg c_38, if_neg c_43]); rw [e, if_pos rfl, hcl9]) (by have e : k_cH N (nI i) v2 v3 = 0 := (by simp (decide := true) only [k_cH, if_neg c_10, if_neg c_27, if_neg c_38, if_neg c_43]); rw [e, if_pos rfl, hcl9]; exact hP) hS dX2_shut_83
        · refine lv_iload_n hx hb dX2_shut_46 rfl (lv_at hl 3 rfl) ?_
          refine lv_if_eq (tgt := 56) hx hb dX2_shut_47 (by decide) (fun c_47 => ?_) (fun c_47 => ?_)
          · refine lv_aload_n hx hb dX2_shut_56 rfl (lv_at hl 0 rfl) ?_
            refine lv_iload_n hx hb dX2_shut_57 rfl (lv_at hl 1 rfl) ?_
            refine lv_bipush (v := 12) hx hb dX2_shut_58 (by decide) ?_
            have sp := cu_sp.all (W0 := (cu_mw C o r q 0 (nI N) mn K)) (W1 := (cu_mw C o r q 0 (nI N) mn K)) rfl
            refine cu_callI (va_runV (As := [.int (nI i), .int 12]) (rest := []) ⟨hx, hb, hml, hown, hts⟩ ((m_X2_sh l D C o r q 0 N hN mn K i 12 hi (by decide) (K i 12) rfl) H.size) (cwV 2 hts gX2_shut_X2_sh rfl rfl rfl (by decide +kernel) ⟨Nat.le_of_ble_eq_true rfl, Nat.le_of_ble_eq_true rfl⟩) (cu_preV (ci := 2) sp hG hP hD rfl rfl) rfl rfl hl.1 rfl (lv_room (Nat.le_of_ble_eq_true rfl)) dX2_shut_60 ⟨Nat.le_of_ble_eq_true rfl, Nat.le_of_ble_eq_true rfl⟩) sp hP hD hS hA (fun H locs hP hD hS => ?_)
            have hP : va_P D vwCl (cu_mw C o r q 0 (nI N) mn K) H := hP
            have hD : va_D A (cu_mw C o r q 0 (nI N) mn K) := hD
            refine lv_istore (lv' := [(4, .int (K i 12)), (0, .ref o), (1, .int (nI i)), (2, .int v2), (3, .int v3)]) hx hb dX2_shut_63 hl (by decide) rfl (fun ls hl => ?_)
            refine lv_aload_n hx hb dX2_shut_65 rfl (lv_at hl 1 rfl) ?_
            refine lv_iload_n hx hb dX2_shut_66 rfl (lv_at hl 2 rfl) ?_
            refine lv_bipush (v := 12) hx hb dX2_shut_67 (by decide) ?_
            refine lv_iload_n hx hb dX2_shut_69 rfl (lv_at hl 3 rfl) ?_
            have sp := cu_sp.all (W0 := (cu_mw C o r q 0 (nI N) mn K)) (W1 := (cu_mw C o r q 0 (nI N) mn (va_up K i (upd (K i) 12 v2)))) cu_mw_fst
            refine cu_callV (va_runV (As := [.int (nI i), .int 12, .int v2]) (rest := []) ⟨hx, hb, hml, hown, hts⟩ ((m_X2_put l D C o r q 0 N hN mn K i 12 hi (by decide) v2 (va_up K i (upd (K i) 12 v2)) rfl) H.size) (cwV 3 hts gX2_shut_X2_put rfl rfl rfl (by decide +kernel) ⟨Nat.le_of_ble_eq_true rfl, Nat.le_of_ble_eq_true rfl⟩) (cu_preV (ci := 2) sp hG hP hD rfl rfl) rfl rfl hl.1 rfl (lv_room (Nat.le_of_ble_eq_true rfl)) dX2_shut_70 ⟨Nat.le_of_ble_eq_true rfl, Nat.le_of_ble_eq_true rfl⟩) sp hP hD hS hA (fun H locs hP hD hS => ?_)
            have hP : va_P D vwCl (cu_mw C o r q 0 (nI N) mn (va_up K i (upd (K i) 12 v2))) H := hP
            have hD : va_D A (cu_mw C o r q 0 (nI N) mn (va_up K i (upd (K i) 12 v2))) := hD
            refine lv_aload_n hx hb dX2_shut_73 rfl (lv_at hl 1 rfl) ?_
            refine lv_iload_n hx hb dX2_shut_74 rfl (lv_at hl 2 rfl) ?_
            refine lv_bipush (v := 13) hx hb dX2_shut_75 (by decide) ?_
            refine lv_iload_n hx hb dX2_shut_77 rfl (lv_at hl 4 rfl) ?_
            have sp := cu_sp.all (W0 := (cu_mw C o r q 0 (nI N) mn (va_up K i (upd (K i) 12 v2)))) (W1 := (cu_mw C o r q 0 (nI N) mn (va_up K i (upd (upd (K i) 12 v2) 13 v3)))) cu_mw_fst
            refine cu_callV (va_runV (As := [.int (nI i), .int 13, .int v3]) (rest := []) ⟨hx, hb, hml, hown, hts⟩ ((m_X2_put l D C o r q 0 N hN mn (va_up K i (upd (K i) 12 v2)) i 13 hi (by decide) v3 (va_up K i (upd (upd (K i) 12 v2) 13 v3)) (by rw [va_up_self, bx_uu])) H.size) (cwV 3 hts gX2_shut_X2_put rfl rfl rfl (by decide +kernel) ⟨Nat.le_of_ble_eq_true rfl, Nat.le_of_ble_eq_true rfl⟩) (cu_preV (ci := 2) sp hG hP hD rfl rfl) rfl rfl hl.1 rfl (lv_room (Nat.le_of_ble_eq_true rfl)) dX2_shut_78 ⟨Nat.le_of_ble_eq_true rfl, Nat.le_of_ble_eq_true rfl⟩) sp hP hD hS hA (fun H locs hP hD hS => ?_)
            have hP : va_P D vwCl (cu_mw C o r q 0 (nI N) mn (va_up K i (upd (upd (K i) 12 v2) 13 v3))) H := hP
            have hD : va_D A (cu_mw C o r q 0 (nI N) mn (va_up K i (upd (upd (K i) 12 v2) 13 v3))) := hD
            refine lv_iload hx hb dX2_shut_81 (lv_at hl 0 rfl) ?_
            exact fin _ _ _ _ _ rfl (by have e : k_cH N (nI i) v2 v3 = 0 := (by simp (decide := true) only [k_cH, if_neg c_10, if_neg c_27, if_neg c_38, if_pos c_43, if_pos c_47]); rw [e, if_pos rfl, hcl9]) (by have e : k_cH N (nI i) v2 v3 = 0 := (by simp (decide := true) only [k_cH, if_neg c_10, if_neg c_27, if_neg c_38, if_pos c_43, if_pos c_47]); rw [e, if_pos rfl, hcl9]; exact hP) hS dX2_shut_83
          · refine lv_aload_n hx hb dX2_shut_50 rfl (lv_at hl 0 rfl) ?_
            refine lv_iconst (v := 2) hx hb dX2_shut_51 (by decide) ?_
            have sp := cu_sp.all (W0 := (cu_mw C o r q 0 (nI N) mn K)) (W1 := (cu_mw C o r q 2 (nI N) mn K)) cu_mw_fst
            refine cu_callI (va_runV (As := [.int 2]) (rest := []) ⟨hx, hb, hml, hown, hts⟩ ((m_X2_fail l D C o r q 0 N hN mn K 2) H.size) (cwV 1 hts gX2_shut_X2_fail rfl rfl rfl (by decide +kernel) ⟨Nat.le_of_ble_eq_true rfl, Nat.le_of_ble_eq_true rfl⟩) (cu_preV (ci := 2) sp hG hP hD rfl rfl) rfl rfl hl.1 rfl (lv_room (Nat.le_of_ble_eq_true rfl)) dX2_shut_52 ⟨Nat.le_of_ble_eq_true rfl, Nat.le_of_ble_eq_true rfl⟩) sp hP hD hS hA (fun H locs hP hD hS => ?_)
            have hP : va_P D vwCl (cu_mw C o r q 2 (nI N) mn K) H := hP
            have hD : va_D A (cu_mw C o r q 2 (nI N) mn K) := hD
            exact fin _ _ _ _ _ rfl (by have e : k_cH N (nI i) v2 v3 = 2 := (by simp (decide := true) only [k_cH, if_neg c_10, if_neg c_27, if_neg c_38, if_pos c_43, if_neg c_47]); rw [e, if_neg (by decide)]) (by have e : k_cH N (nI i) v2 v3 = 2 := (by simp (decide := true) only [k_cH, if_neg c_10, if_neg c_27, if_neg c_38, if_pos c_43, if_neg c_47]); rw [e, if_neg (by decide)]; exact hP) hS dX2_shut_55
  · refine lv_aload_n hx hb dX2_shut_13 rfl (lv_at hl 0 rfl) ?_
    refine lv_iconst (v := 1) hx hb dX2_shut_14 (by decide) ?_
    have sp := cu_sp.all (W0 := (cu_mw C o r q 0 (nI N) mn K)) (W1 := (cu_mw C o r q 1 (nI N) mn K)) cu_mw_fst
    refine cu_callI (va_runV (As := [.int 1]) (rest := []) ⟨hx, hb, hml, hown, hts⟩ ((m_X2_fail l D C o r q 0 N hN mn K 1) H.size) (cwV 1 hts gX2_shut_X2_fail rfl rfl rfl (by decide +kernel) ⟨Nat.le_of_ble_eq_true rfl, Nat.le_of_ble_eq_true rfl⟩) (cu_preV (ci := 2) sp hG hP hD rfl rfl) rfl rfl hl.1 rfl (lv_room (Nat.le_of_ble_eq_true rfl)) dX2_shut_15 ⟨Nat.le_of_ble_eq_true rfl, Nat.le_of_ble_eq_true rfl⟩) sp hP hD hS hA (fun H locs hP hD hS => ?_)
    have hP : va_P D vwCl (cu_mw C o r q 1 (nI N) mn K) H := hP
    have hD : va_D A (cu_mw C o r q 1 (nI N) mn K) := hD
    exact fin _ _ _ _ _ rfl (by have e : k_cH N v1 v2 v3 = 1 := (by simp (decide := true) only [k_cH, if_pos c_10]); rw [e, if_neg (by decide)]) (by have e : k_cH N v1 v2 v3 = 1 := (by simp (decide := true) only [k_cH, if_pos c_10]); rw [e, if_neg (by decide)]; exact hP) hS dX2_shut_18

set_option maxHeartbeats 4000000 in
set_option maxRecDepth 100000 in
theorem m_X2_clock (l : Launch) (D : va_G) (C : Nat → ClassId) (o r q : Nat) (th : Int32) (N : Nat) (hN : N ≤ 10) (mn : Int32) (K : Nat → Nat → Int32) (v1 : Int32) (v2 : Int32) (hok : ∀ c, c < N → k_ok (K c)) : cu_I l D C yX2_clock wsX2_clock { frames := 4, cells := 0, slots := 0, locals := 89 } [.ref o, .int v1, .int v2] (cu_mw C o r q th (nI N) mn K) (cu_mw C o r q (k_cR N v1 v2) (nI N) mn K) (if k_cR N v1 v2 = 0 then k_read (K v1.toNatClampNeg) v2 else 0) 0 0 := by
  refine cu_openI (cc := cX2_clock) (maxL := 3) (ty := .int) (own := RX2) (by decide) rfl rfl (Nat.le_of_ble_eq_true rfl) ?_
  intro p e s m args below meth c A Z H0 ls e0 hx hb hml hts hown hnm hG hP hD hS hA hl fin
  have hK := hG.1
  have hl : lv_has ls 3 [(0, .ref o), (1, .int v1), (2, .int v2)] := hl
  have hiX2 : ∀ w ∈ wsX20, w ∈ wsX2_clock := by decide +kernel
  refine lv_aload_n hx hb dX2_clock_0 rfl (lv_at hl 0 rfl) ?_
  refine lv_iconst (v := 0) hx hb dX2_clock_1 (by decide) ?_
  refine va_put (D := D) (ci := 2) (v := .int 0) (ty := .int) (C := RX2) (T := TX2) (N := 4) hx hb hts hiX2 tyX2 tyX2_ok nmX2 hown hK hP hD hS 0 rfl rfl 0 (by decide) (hts (.fieldLink RX2 16 "CuckooShopModel" "thrown" "I") (by decide +kernel)) (fun _ h9 => h9) rfl (by decide +kernel) rfl rfl (Nat.le_of_ble_eq_true rfl) dX2_clock_2 (fun H locs hP hD hS => ?_)
  have hP : va_P D vwCl (cu_mw C o r q 0 (nI N) mn K) H := hP
  have hD : va_D A (cu_mw C o r q 0 (nI N) mn K) := hD
  refine lv_aload_n hx hb dX2_clock_5 rfl (lv_at hl 0 rfl) ?_
  refine lv_iload_n hx hb dX2_clock_6 rfl (lv_at hl 1 rfl) ?_
  have sp := cu_sp.all (W0 := (cu_mw C o r q 0 (nI N) mn K)) (W1 := (cu_mw C o r q 0 (nI N) mn K)) rfl
  refine cu_callI (va_runV (As := [.int v1]) (rest := []) ⟨hx, hb, hml, hown, hts⟩ ((m_X2_isClock l D C o r q 0 N hN mn K v1) H.size) (cwV 1 hts gX2_clock_X2_isClock rfl rfl rfl (by decide +kernel) ⟨Nat.le_of_ble_eq_true rfl, Nat.le_of_ble_eq_true rfl⟩) (cu_preV (ci := 2) sp hG hP hD rfl rfl) rfl rfl hl.1 rfl (lv_room (Nat.le_of_ble_eq_true rfl)) dX2_clock_7 ⟨Nat.le_of_ble_eq_true rfl, Nat.le_of_ble_eq_true rfl⟩) sp hP hD hS hA (fun H locs hP hD hS => ?_)
  have hP : va_P D vwCl (cu_mw C o r q 0 (nI N) mn K) H := hP
  have hD : va_D A (cu_mw C o r q 0 (nI N) mn K) := hD
  refine lv_if_eq (tgt := 32) hx hb dX2_clock_10 (by decide) (fun c_10 => ?_) (fun c_10 => ?_)
  · refine lv_aload_n hx hb dX2_clock_32 rfl (lv_at hl 0 rfl) ?_
    refine lv_iconst (v := 1) hx hb dX2_clock_33 (by decide) ?_
    have sp := cu_sp.all (W0 := (cu_mw C o r q 0 (nI N) mn K)) (W1 := (cu_mw C o r q 1 (nI N) mn K)) cu_mw_fst
    refine cu_callI (va_runV (As := [.int 1]) (rest := []) ⟨hx, hb, hml, hown, hts⟩ ((m_X2_fail l D C o r q 0 N hN mn K 1) H.size) (cwV 1 hts gX2_clock_X2_fail rfl rfl rfl (by decide +kernel) ⟨Nat.le_of_ble_eq_true rfl, Nat.le_of_ble_eq_true rfl⟩) (cu_preV (ci := 2) sp hG hP hD rfl rfl) rfl rfl hl.1 rfl (lv_room (Nat.le_of_ble_eq_true rfl)) dX2_clock_34 ⟨Nat.le_of_ble_eq_true rfl, Nat.le_of_ble_eq_true rfl⟩) sp hP hD hS hA (fun H locs hP hD hS => ?_)
    have hP : va_P D vwCl (cu_mw C o r q 1 (nI N) mn K) H := hP
    have hD : va_D A (cu_mw C o r q 1 (nI N) mn K) := hD
    exact fin _ _ _ _ _ rfl (by have e : k_cR N v1 v2 = 1 := (by simp (decide := true) only [k_cR, if_pos c_10]); rw [e, if_neg (by decide)]) (by have e : k_cR N v1 v2 = 1 := (by simp (decide := true) only [k_cR, if_pos c_10]); rw [e]; exact hP) hS dX2_clock_37
  · obtain ⟨i, hiN, rfl⟩ := k_isC_in hN c_10
    have hi : i < 10 := by omega
    have hcl9 : (nI i).toNatClampNeg = i := nI_clamp (by omega)
    refine lv_iload_n hx hb dX2_clock_13 rfl (lv_at hl 2 rfl) ?_
    refine lv_iconst (v := 0) hx hb dX2_clock_14 (by decide) ?_
    refine lv_bipush (v := 10) hx hb dX2_clock_15 (by decide) ?_
    have sp := cu_sp.nil (W0 := (cu_mw C o r q 0 (nI N) mn K))
    refine cu_callI (va_runS (As := [.int v2, .int 0, .int 10]) (rest := []) ⟨hx, hb, hml, hown, hts⟩ ((m_X2_isIn l D C v2 0 10) H.size) (va_cwS 3 hts gX2_clock_X2_isIn rfl rfl rfl (by decide +kernel) ⟨Nat.le_of_ble_eq_true rfl, Nat.le_of_ble_eq_true rfl⟩) (cu_preS sp hG hP hD) rfl rfl hl.1 rfl (lv_room (Nat.le_of_ble_eq_true rfl)) dX2_clock_17 ⟨Nat.le_of_ble_eq_true rfl, Nat.le_of_ble_eq_true rfl⟩) sp hP hD hS hA (fun H locs hP hD hS => ?_)
    refine lv_if_eq (tgt := 32) hx hb dX2_clock_20 (by decide) (fun c_20 => ?_) (fun c_20 => ?_)
    · refine lv_aload_n hx hb dX2_clock_32 rfl (lv_at hl 0 rfl) ?_
      refine lv_iconst (v := 1) hx hb dX2_clock_33 (by decide) ?_
      have sp := cu_sp.all (W0 := (cu_mw C o r q 0 (nI N) mn K)) (W1 := (cu_mw C o r q 1 (nI N) mn K)) cu_mw_fst
      refine cu_callI (va_runV (As := [.int 1]) (rest := []) ⟨hx, hb, hml, hown, hts⟩ ((m_X2_fail l D C o r q 0 N hN mn K 1) H.size) (cwV 1 hts gX2_clock_X2_fail rfl rfl rfl (by decide +kernel) ⟨Nat.le_of_ble_eq_true rfl, Nat.le_of_ble_eq_true rfl⟩) (cu_preV (ci := 2) sp hG hP hD rfl rfl) rfl rfl hl.1 rfl (lv_room (Nat.le_of_ble_eq_true rfl)) dX2_clock_34 ⟨Nat.le_of_ble_eq_true rfl, Nat.le_of_ble_eq_true rfl⟩) sp hP hD hS hA (fun H locs hP hD hS => ?_)
      have hP : va_P D vwCl (cu_mw C o r q 1 (nI N) mn K) H := hP
      have hD : va_D A (cu_mw C o r q 1 (nI N) mn K) := hD
      exact fin _ _ _ _ _ rfl (by have e : k_cR N (nI i) v2 = 1 := (by simp (decide := true) only [k_cR, if_neg c_10, if_pos c_20]); rw [e, if_neg (by decide)]) (by have e : k_cR N (nI i) v2 = 1 := (by simp (decide := true) only [k_cR, if_neg c_10, if_pos c_20]); rw [e]; exact hP) hS dX2_clock_37
    · obtain ⟨w, hw, rfl⟩ := k_isN_in 10 (by decide) c_20
      refine lv_aload_n hx hb dX2_clock_23 rfl (lv_at hl 0 rfl) ?_
      refine lv_iload_n hx hb dX2_clock_24 rfl (lv_at hl 1 rfl) ?_
      refine lv_iload_n hx hb dX2_clock_25 rfl (lv_at hl 2 rfl) ?_
      have sp := cu_sp.all (W0 := (cu_mw C o r q 0 (nI N) mn K)) (W1 := (cu_mw C o r q 0 (nI N) mn K)) rfl
      refine cu_callI (va_runV (As := [.int (nI i), .int (nI w)]) (rest := []) ⟨hx, hb, hml, hown, hts⟩ ((m_X2_clockTold l D C o r q 0 N hN mn K i hi (K i) rfl (hok i hiN) w (by omega) (nI w) rfl) H.size) (cwV 2 hts gX2_clock_X2_clockTold rfl rfl rfl (by decide +kernel) ⟨Nat.le_of_ble_eq_true rfl, Nat.le_of_ble_eq_true rfl⟩) (cu_preV (ci := 2) sp hG hP hD rfl rfl) rfl rfl hl.1 rfl (lv_room (Nat.le_of_ble_eq_true rfl)) dX2_clock_26 ⟨Nat.le_of_ble_eq_true rfl, Nat.le_of_ble_eq_true rfl⟩) sp hP hD hS hA (fun H locs hP hD hS => ?_)
      have hP : va_P D vwCl (cu_mw C o r q 0 (nI N) mn K) H := hP
      have hD : va_D A (cu_mw C o r q 0 (nI N) mn K) := hD
      refine lv_goto (tgt := 37) hx hb dX2_clock_29 (by decide) ?_
      exact fin _ _ _ _ _ rfl (by have e : k_cR N (nI i) (nI w) = 0 := (by simp (decide := true) only [k_cR, if_neg c_10, if_neg c_20]); rw [e, if_pos rfl, hcl9]) (by have e : k_cR N (nI i) (nI w) = 0 := (by simp (decide := true) only [k_cR, if_neg c_10, if_neg c_20]); rw [e]; exact hP) hS dX2_clock_37

set_option maxHeartbeats 4000000 in
set_option maxRecDepth 100000 in
theorem m_X2_off (l : Launch) (D : va_G) (C : Nat → ClassId) (o r q : Nat) (th : Int32) (N : Nat) (hN : N ≤ 10) (mn : Int32) (K : Nat → Nat → Int32) (v1 : Int32) (hok : ∀ c, c < N → k_ok (K c)) (hm : 0 ≤ mn.toInt) : cu_I l D C yX2_off wsX2_off { frames := 2, cells := 0, slots := 0, locals := 43 } [.ref o, .int v1] (cu_mw C o r q th (nI N) mn K) (cu_mw C o r q (k_c1 N v1) (nI N) mn K) (if k_c1 N v1 = 0 then k_off (K v1.toNatClampNeg) mn else 0) 0 0 := by
  refine cu_openI (cc := cX2_off) (maxL := 2) (ty := .int) (own := RX2) (by decide) rfl rfl (Nat.le_of_ble_eq_true rfl) ?_
  intro p e s m args below meth c A Z H0 ls e0 hx hb hml hts hown hnm hG hP hD hS hA hl fin
  have hK := hG.1
  have hl : lv_has ls 2 [(0, .ref o), (1, .int v1)] := hl
  have hiX2 : ∀ w ∈ wsX20, w ∈ wsX2_off := by decide +kernel
  refine lv_aload_n hx hb dX2_off_0 rfl (lv_at hl 0 rfl) ?_
  refine lv_iconst (v := 0) hx hb dX2_off_1 (by decide) ?_
  refine va_put (D := D) (ci := 2) (v := .int 0) (ty := .int) (C := RX2) (T := TX2) (N := 4) hx hb hts hiX2 tyX2 tyX2_ok nmX2 hown hK hP hD hS 0 rfl rfl 0 (by decide) (hts (.fieldLink RX2 16 "CuckooShopModel" "thrown" "I") (by decide +kernel)) (fun _ h9 => h9) rfl (by decide +kernel) rfl rfl (Nat.le_of_ble_eq_true rfl) dX2_off_2 (fun H locs hP hD hS => ?_)
  have hP : va_P D vwCl (cu_mw C o r q 0 (nI N) mn K) H := hP
  have hD : va_D A (cu_mw C o r q 0 (nI N) mn K) := hD
  refine lv_aload_n hx hb dX2_off_5 rfl (lv_at hl 0 rfl) ?_
  refine lv_iload_n hx hb dX2_off_6 rfl (lv_at hl 1 rfl) ?_
  have sp := cu_sp.all (W0 := (cu_mw C o r q 0 (nI N) mn K)) (W1 := (cu_mw C o r q 0 (nI N) mn K)) rfl
  refine cu_callI (va_runV (As := [.int v1]) (rest := []) ⟨hx, hb, hml, hown, hts⟩ ((m_X2_isClock l D C o r q 0 N hN mn K v1) H.size) (cwV 1 hts gX2_off_X2_isClock rfl rfl rfl (by decide +kernel) ⟨Nat.le_of_ble_eq_true rfl, Nat.le_of_ble_eq_true rfl⟩) (cu_preV (ci := 2) sp hG hP hD rfl rfl) rfl rfl hl.1 rfl (lv_room (Nat.le_of_ble_eq_true rfl)) dX2_off_7 ⟨Nat.le_of_ble_eq_true rfl, Nat.le_of_ble_eq_true rfl⟩) sp hP hD hS hA (fun H locs hP hD hS => ?_)
  have hP : va_P D vwCl (cu_mw C o r q 0 (nI N) mn K) H := hP
  have hD : va_D A (cu_mw C o r q 0 (nI N) mn K) := hD
  refine lv_if_eq (tgt := 21) hx hb dX2_off_10 (by decide) (fun c_10 => ?_) (fun c_10 => ?_)
  · refine lv_aload_n hx hb dX2_off_21 rfl (lv_at hl 0 rfl) ?_
    refine lv_iconst (v := 1) hx hb dX2_off_22 (by decide) ?_
    have sp := cu_sp.all (W0 := (cu_mw C o r q 0 (nI N) mn K)) (W1 := (cu_mw C o r q 1 (nI N) mn K)) cu_mw_fst
    refine cu_callI (va_runV (As := [.int 1]) (rest := []) ⟨hx, hb, hml, hown, hts⟩ ((m_X2_fail l D C o r q 0 N hN mn K 1) H.size) (cwV 1 hts gX2_off_X2_fail rfl rfl rfl (by decide +kernel) ⟨Nat.le_of_ble_eq_true rfl, Nat.le_of_ble_eq_true rfl⟩) (cu_preV (ci := 2) sp hG hP hD rfl rfl) rfl rfl hl.1 rfl (lv_room (Nat.le_of_ble_eq_true rfl)) dX2_off_23 ⟨Nat.le_of_ble_eq_true rfl, Nat.le_of_ble_eq_true rfl⟩) sp hP hD hS hA (fun H locs hP hD hS => ?_)
    have hP : va_P D vwCl (cu_mw C o r q 1 (nI N) mn K) H := hP
    have hD : va_D A (cu_mw C o r q 1 (nI N) mn K) := hD
    exact fin _ _ _ _ _ rfl (by have e : k_c1 N v1 = 1 := (by simp (decide := true) only [k_c1, if_pos c_10]); rw [e, if_neg (by decide)]) (by have e : k_c1 N v1 = 1 := (by simp (decide := true) only [k_c1, if_pos c_10]); rw [e]; exact hP) hS dX2_off_26
  · obtain ⟨i, hiN, rfl⟩ := k_isC_in hN c_10
    have hi : i < 10 := by omega
    have hcl9 : (nI i).toNatClampNeg = i := nI_clamp (by omega)
    refine lv_aload_n hx hb dX2_off_13 rfl (lv_at hl 0 rfl) ?_
    refine lv_iload_n hx hb dX2_off_14 rfl (lv_at hl 1 rfl) ?_
    have sp := cu_sp.all (W0 := (cu_mw C o r q 0 (nI N) mn K)) (W1 := (cu_mw C o r q 0 (nI N) mn K)) rfl
    refine cu_callI (va_runV (As := [.int (nI i)]) (rest := []) ⟨hx, hb, hml, hown, hts⟩ ((m_X2_offBy l D C o r q 0 N hN mn K i hi (K i) rfl  (hok i hiN).c hm) H.size) (cwV 1 hts gX2_off_X2_offBy rfl rfl rfl (by decide +kernel) ⟨Nat.le_of_ble_eq_true rfl, Nat.le_of_ble_eq_true rfl⟩) (cu_preV (ci := 2) sp hG hP hD rfl rfl) rfl rfl hl.1 rfl (lv_room (Nat.le_of_ble_eq_true rfl)) dX2_off_15 ⟨Nat.le_of_ble_eq_true rfl, Nat.le_of_ble_eq_true rfl⟩) sp hP hD hS hA (fun H locs hP hD hS => ?_)
    have hP : va_P D vwCl (cu_mw C o r q 0 (nI N) mn K) H := hP
    have hD : va_D A (cu_mw C o r q 0 (nI N) mn K) := hD
    refine lv_goto (tgt := 26) hx hb dX2_off_18 (by decide) ?_
    exact fin _ _ _ _ _ rfl (by have e : k_c1 N (nI i) = 0 := (by simp (decide := true) only [k_c1, if_neg c_10]); rw [e, if_pos rfl, hcl9]) (by have e : k_c1 N (nI i) = 0 := (by simp (decide := true) only [k_c1, if_neg c_10]); rw [e]; exact hP) hS dX2_off_26

set_option maxHeartbeats 4000000 in
set_option maxRecDepth 100000 in
theorem m_X2_count (l : Launch) (D : va_G) (C : Nat → ClassId) (o r q : Nat) (th : Int32) (N : Nat) (hN : N ≤ 10) (mn : Int32) (K : Nat → Nat → Int32) (v1 : Int32) (hok : ∀ c, c < N → k_ok (K c)) (hm : 0 ≤ mn.toInt) : cu_I l D C yX2_count wsX2_count { frames := 3, cells := 0, slots := 0, locals := 68 } [.ref o, .int v1] (cu_mw C o r q th (nI N) mn K) (cu_mw C o r q (k_cY v1) (nI N) mn K) (if k_cY v1 = 0 then k_tally N K mn v1 else 0) 0 0 := by
  refine cu_openI (cc := cX2_count) (maxL := 2) (ty := .int) (own := RX2) (by decide) rfl rfl (Nat.le_of_ble_eq_true rfl) ?_
  intro p e s m args below meth c A Z H0 ls e0 hx hb hml hts hown hnm hG hP hD hS hA hl fin
  have hK := hG.1
  have hl : lv_has ls 2 [(0, .ref o), (1, .int v1)] := hl
  have hiX2 : ∀ w ∈ wsX20, w ∈ wsX2_count := by decide +kernel
  refine lv_aload_n hx hb dX2_count_0 rfl (lv_at hl 0 rfl) ?_
  refine lv_iconst (v := 0) hx hb dX2_count_1 (by decide) ?_
  refine va_put (D := D) (ci := 2) (v := .int 0) (ty := .int) (C := RX2) (T := TX2) (N := 4) hx hb hts hiX2 tyX2 tyX2_ok nmX2 hown hK hP hD hS 0 rfl rfl 0 (by decide) (hts (.fieldLink RX2 16 "CuckooShopModel" "thrown" "I") (by decide +kernel)) (fun _ h9 => h9) rfl (by decide +kernel) rfl rfl (Nat.le_of_ble_eq_true rfl) dX2_count_2 (fun H locs hP hD hS => ?_)
  have hP : va_P D vwCl (cu_mw C o r q 0 (nI N) mn K) H := hP
  have hD : va_D A (cu_mw C o r q 0 (nI N) mn K) := hD
  refine lv_iload_n hx hb dX2_count_5 rfl (lv_at hl 1 rfl) ?_
  refine lv_iconst (v := 0) hx hb dX2_count_6 (by decide) ?_
  refine lv_bipush (v := 7) hx hb dX2_count_7 (by decide) ?_
  have sp := cu_sp.nil (W0 := (cu_mw C o r q 0 (nI N) mn K))
  refine cu_callI (va_runS (As := [.int v1, .int 0, .int 7]) (rest := []) ⟨hx, hb, hml, hown, hts⟩ ((m_X2_isIn l D C v1 0 7) H.size) (va_cwS 3 hts gX2_count_X2_isIn rfl rfl rfl (by decide +kernel) ⟨Nat.le_of_ble_eq_true rfl, Nat.le_of_ble_eq_true rfl⟩) (cu_preS sp hG hP hD) rfl rfl hl.1 rfl (lv_room (Nat.le_of_ble_eq_true rfl)) dX2_count_9 ⟨Nat.le_of_ble_eq_true rfl, Nat.le_of_ble_eq_true rfl⟩) sp hP hD hS hA (fun H locs hP hD hS => ?_)
  refine lv_if_eq (tgt := 23) hx hb dX2_count_12 (by decide) (fun c_12 => ?_) (fun c_12 => ?_)
  · refine lv_aload_n hx hb dX2_count_23 rfl (lv_at hl 0 rfl) ?_
    refine lv_iconst (v := 1) hx hb dX2_count_24 (by decide) ?_
    have sp := cu_sp.all (W0 := (cu_mw C o r q 0 (nI N) mn K)) (W1 := (cu_mw C o r q 1 (nI N) mn K)) cu_mw_fst
    refine cu_callI (va_runV (As := [.int 1]) (rest := []) ⟨hx, hb, hml, hown, hts⟩ ((m_X2_fail l D C o r q 0 N hN mn K 1) H.size) (cwV 1 hts gX2_count_X2_fail rfl rfl rfl (by decide +kernel) ⟨Nat.le_of_ble_eq_true rfl, Nat.le_of_ble_eq_true rfl⟩) (cu_preV (ci := 2) sp hG hP hD rfl rfl) rfl rfl hl.1 rfl (lv_room (Nat.le_of_ble_eq_true rfl)) dX2_count_25 ⟨Nat.le_of_ble_eq_true rfl, Nat.le_of_ble_eq_true rfl⟩) sp hP hD hS hA (fun H locs hP hD hS => ?_)
    have hP : va_P D vwCl (cu_mw C o r q 1 (nI N) mn K) H := hP
    have hD : va_D A (cu_mw C o r q 1 (nI N) mn K) := hD
    exact fin _ _ _ _ _ rfl (by have e : k_cY v1 = 1 := (by simp (decide := true) only [k_cY, if_pos c_12]); rw [e, if_neg (by decide)]) (by have e : k_cY v1 = 1 := (by simp (decide := true) only [k_cY, if_pos c_12]); rw [e]; exact hP) hS dX2_count_28
  · obtain ⟨w, hw, rfl⟩ := k_isN_in 7 (by decide) c_12
    refine lv_aload_n hx hb dX2_count_15 rfl (lv_at hl 0 rfl) ?_
    refine lv_iload_n hx hb dX2_count_16 rfl (lv_at hl 1 rfl) ?_
    have sp := cu_sp.all (W0 := (cu_mw C o r q 0 (nI N) mn K)) (W1 := (cu_mw C o r q 0 (nI N) mn K)) rfl
    refine cu_callI (va_runV (As := [.int (nI w)]) (rest := []) ⟨hx, hb, hml, hown, hts⟩ ((m_X2_counted l D C o r q 0 N hN mn K hok hm w (by omega) (nI w) rfl) H.size) (cwV 1 hts gX2_count_X2_counted rfl rfl rfl (by decide +kernel) ⟨Nat.le_of_ble_eq_true rfl, Nat.le_of_ble_eq_true rfl⟩) (cu_preV (ci := 2) sp hG hP hD rfl rfl) rfl rfl hl.1 rfl (lv_room (Nat.le_of_ble_eq_true rfl)) dX2_count_17 ⟨Nat.le_of_ble_eq_true rfl, Nat.le_of_ble_eq_true rfl⟩) sp hP hD hS hA (fun H locs hP hD hS => ?_)
    have hP : va_P D vwCl (cu_mw C o r q 0 (nI N) mn K) H := hP
    have hD : va_D A (cu_mw C o r q 0 (nI N) mn K) := hD
    refine lv_goto (tgt := 28) hx hb dX2_count_20 (by decide) ?_
    exact fin _ _ _ _ _ rfl (by have e : k_cY (nI w) = 0 := (by simp (decide := true) only [k_cY, if_neg c_12]); rw [e, if_pos rfl]) (by have e : k_cY (nI w) = 0 := (by simp (decide := true) only [k_cY, if_neg c_12]); rw [e]; exact hP) hS dX2_count_28

set_option maxHeartbeats 4000000 in
set_option maxRecDepth 100000 in
theorem m_X2_pass (l : Launch) (D : va_G) (C : Nat → ClassId) (o r q : Nat) (th : Int32) (N : Nat) (hN : N ≤ 10) (mn : Int32) (K : Nat → Nat → Int32) (v1 : Int32) (hok : ∀ c, c < N → k_ok (K c)) : cu_I l D C yX2_pass wsX2_pass { frames := 5, cells := 0, slots := 0, locals := 112 } [.ref o, .int v1] (cu_mw C o r q th (nI N) mn K) (cu_mw C o r q (k_cM v1) (nI N) (if k_cM v1 = 0 then mn + v1 else mn) (if k_cM v1 = 0 then k_at N mn K v1.toNatClampNeg else K)) (if k_cM v1 = 0 then k_sum (fun c => k_at N mn K v1.toNatClampNeg c 6) N - k_sum (fun c => K c 6) N else 0) 0 0 := by
  refine cu_openI (cc := cX2_pass) (maxL := 3) (ty := .int) (own := RX2) (by decide) rfl rfl (Nat.le_of_ble_eq_true rfl) ?_
  intro p e s m args below meth c A Z H0 ls e0 hx hb hml hts hown hnm hG hP hD hS hA hl fin
  have hK := hG.1
  have hl : lv_has ls 3 [(0, .ref o), (1, .int v1)] := hl
  have hiX2 : ∀ w ∈ wsX20, w ∈ wsX2_pass := by decide +kernel
  refine lv_aload_n hx hb dX2_pass_0 rfl (lv_at hl 0 rfl) ?_
  refine lv_iconst (v := 0) hx hb dX2_pass_1 (by decide) ?_
  refine va_put (D := D) (ci := 2) (v := .int 0) (ty := .int) (C := RX2) (T := TX2) (N := 4) hx hb hts hiX2 tyX2 tyX2_ok nmX2 hown hK hP hD hS 0 rfl rfl 0 (by decide) (hts (.fieldLink RX2 16 "CuckooShopModel" "thrown" "I") (by decide +kernel)) (fun _ h9 => h9) rfl (by decide +kernel) rfl rfl (Nat.le_of_ble_eq_true rfl) dX2_pass_2 (fun H locs hP hD hS => ?_)
  have hP : va_P D vwCl (cu_mw C o r q 0 (nI N) mn K) H := hP
  have hD : va_D A (cu_mw C o r q 0 (nI N) mn K) := hD
  refine lv_iload_n hx hb dX2_pass_5 rfl (lv_at hl 1 rfl) ?_
  refine lv_iconst (v := 1) hx hb dX2_pass_6 (by decide) ?_
  refine lv_sipush (v := 720) hx hb dX2_pass_7 (by decide) ?_
  have sp := cu_sp.nil (W0 := (cu_mw C o r q 0 (nI N) mn K))
  refine cu_callI (va_runS (As := [.int v1, .int 1, .int 720]) (rest := []) ⟨hx, hb, hml, hown, hts⟩ ((m_X2_isIn l D C v1 1 720) H.size) (va_cwS 3 hts gX2_pass_X2_isIn rfl rfl rfl (by decide +kernel) ⟨Nat.le_of_ble_eq_true rfl, Nat.le_of_ble_eq_true rfl⟩) (cu_preS sp hG hP hD) rfl rfl hl.1 rfl (lv_room (Nat.le_of_ble_eq_true rfl)) dX2_pass_10 ⟨Nat.le_of_ble_eq_true rfl, Nat.le_of_ble_eq_true rfl⟩) sp hP hD hS hA (fun H locs hP hD hS => ?_)
  refine lv_if_ne (tgt := 22) hx hb dX2_pass_13 (by decide) (fun c_13 => ?_) (fun c_13 => ?_)
  · obtain ⟨t, ht1, ht, rfl⟩ := k_isM_in c_13
    have hcl9 : (nI t).toNatClampNeg = t := nI_clamp (by omega)
    refine lv_aload_n hx hb dX2_pass_22 rfl (lv_at hl 0 rfl) ?_
    refine lv_bipush (v := 6) hx hb dX2_pass_23 (by decide) ?_
    have sp := cu_sp.all (W0 := (cu_mw C o r q 0 (nI N) mn K)) (W1 := (cu_mw C o r q 0 (nI N) mn K)) rfl
    refine cu_callI (va_runV (As := [.int 6]) (rest := []) ⟨hx, hb, hml, hown, hts⟩ ((m_X2_all l D C o r q 0 N hN mn K 6 (by decide)) H.size) (cwV 1 hts gX2_pass_X2_all rfl rfl rfl (by decide +kernel) ⟨Nat.le_of_ble_eq_true rfl, Nat.le_of_ble_eq_true rfl⟩) (cu_preV (ci := 2) sp hG hP hD rfl rfl) rfl rfl hl.1 rfl (lv_room (Nat.le_of_ble_eq_true rfl)) dX2_pass_25 ⟨Nat.le_of_ble_eq_true rfl, Nat.le_of_ble_eq_true rfl⟩) sp hP hD hS hA (fun H locs hP hD hS => ?_)
    have hP : va_P D vwCl (cu_mw C o r q 0 (nI N) mn K) H := hP
    have hD : va_D A (cu_mw C o r q 0 (nI N) mn K) := hD
    refine lv_istore_n (lv' := [(2, .int (k_sum (fun c => K c 6) N)), (0, .ref o), (1, .int (nI t))]) hx hb dX2_pass_28 rfl hl (by decide) rfl (fun ls hl => ?_)
    refine lv_aload_n hx hb dX2_pass_29 rfl (lv_at hl 1 rfl) ?_
    refine lv_iload_n hx hb dX2_pass_30 rfl (lv_at hl 2 rfl) ?_
    have sp := cu_sp.all (W0 := (cu_mw C o r q 0 (nI N) mn K)) (W1 := (cu_mw C o r q 0 (nI N) (mn + nI t) (k_at N mn K t))) cu_mw_fst
    refine cu_callV (va_runV (As := [.int (nI t)]) (rest := []) ⟨hx, hb, hml, hown, hts⟩ ((m_X2_minutesOn l D C o r q 0 N hN mn K hok t ht) H.size) (cwV 1 hts gX2_pass_X2_minutesOn rfl rfl rfl (by decide +kernel) ⟨Nat.le_of_ble_eq_true rfl, Nat.le_of_ble_eq_true rfl⟩) (cu_preV (ci := 2) sp hG hP hD rfl rfl) rfl rfl hl.1 rfl (lv_room (Nat.le_of_ble_eq_true rfl)) dX2_pass_31 ⟨Nat.le_of_ble_eq_true rfl, Nat.le_of_ble_eq_true rfl⟩) sp hP hD hS hA (fun H locs hP hD hS => ?_)
    have hP : va_P D vwCl (cu_mw C o r q 0 (nI N) (mn + nI t) (k_at N mn K t)) H := hP
    have hD : va_D A (cu_mw C o r q 0 (nI N) (mn + nI t) (k_at N mn K t)) := hD
    refine lv_aload_n hx hb dX2_pass_34 rfl (lv_at hl 1 rfl) ?_
    refine lv_bipush (v := 6) hx hb dX2_pass_35 (by decide) ?_
    have sp := cu_sp.all (W0 := (cu_mw C o r q 0 (nI N) (mn + nI t) (k_at N mn K t))) (W1 := (cu_mw C o r q 0 (nI N) (mn + nI t) (k_at N mn K t))) rfl
    refine cu_callI (va_runV (As := [.int 6]) (rest := []) ⟨hx, hb, hml, hown, hts⟩ ((m_X2_all l D C o r q 0 N hN (mn + nI t) (k_at N mn K t) 6 (by decide)) H.size) (cwV 1 hts gX2_pass_X2_all rfl rfl rfl (by decide +kernel) ⟨Nat.le_of_ble_eq_true rfl, Nat.le_of_ble_eq_true rfl⟩) (cu_preV (ci := 2) sp hG hP hD rfl rfl) rfl rfl hl.1 rfl (lv_room (Nat.le_of_ble_eq_true rfl)) dX2_pass_37 ⟨Nat.le_of_ble_eq_true rfl, Nat.le_of_ble_eq_true rfl⟩) sp hP hD hS hA (fun H locs hP hD hS => ?_)
    have hP : va_P D vwCl (cu_mw C o r q 0 (nI N) (mn + nI t) (k_at N mn K t)) H := hP
    have hD : va_D A (cu_mw C o r q 0 (nI N) (mn + nI t) (k_at N mn K t)) := hD
    refine lv_iload_n hx hb dX2_pass_40 rfl (lv_at hl 0 rfl) ?_
    refine lv_isub hx hb dX2_pass_41 ?_
    exact fin _ _ _ _ _ rfl (by have e : k_cM (nI t) = 0 := (by simp (decide := true) only [k_cM, if_neg c_13]); rw [e, if_pos rfl, hcl9]) (by have e : k_cM (nI t) = 0 := (by simp (decide := true) only [k_cM, if_neg c_13]); rw [e, if_pos rfl, if_pos rfl, hcl9]; exact hP) hS dX2_pass_42
  · refine lv_aload_n hx hb dX2_pass_16 rfl (lv_at hl 0 rfl) ?_
    refine lv_iconst (v := 1) hx hb dX2_pass_17 (by decide) ?_
    have sp := cu_sp.all (W0 := (cu_mw C o r q 0 (nI N) mn K)) (W1 := (cu_mw C o r q 1 (nI N) mn K)) cu_mw_fst
    refine cu_callI (va_runV (As := [.int 1]) (rest := []) ⟨hx, hb, hml, hown, hts⟩ ((m_X2_fail l D C o r q 0 N hN mn K 1) H.size) (cwV 1 hts gX2_pass_X2_fail rfl rfl rfl (by decide +kernel) ⟨Nat.le_of_ble_eq_true rfl, Nat.le_of_ble_eq_true rfl⟩) (cu_preV (ci := 2) sp hG hP hD rfl rfl) rfl rfl hl.1 rfl (lv_room (Nat.le_of_ble_eq_true rfl)) dX2_pass_18 ⟨Nat.le_of_ble_eq_true rfl, Nat.le_of_ble_eq_true rfl⟩) sp hP hD hS hA (fun H locs hP hD hS => ?_)
    have hP : va_P D vwCl (cu_mw C o r q 1 (nI N) mn K) H := hP
    have hD : va_D A (cu_mw C o r q 1 (nI N) mn K) := hD
    exact fin _ _ _ _ _ rfl (by have e : k_cM v1 = 1 := (by simp (decide := true) only [k_cM, if_pos c_13]); rw [e, if_neg (by decide)]) (by have e : k_cM v1 = 1 := (by simp (decide := true) only [k_cM, if_pos c_13]); rw [e, if_neg (by decide)]; exact hP) hS dX2_pass_21

set_option maxHeartbeats 4000000 in
set_option maxRecDepth 100000 in
theorem m_X2_stands (l : Launch) (D : va_G) (C : Nat → ClassId) (o r q : Nat) (th : Int32) (N : Nat) (hN : N ≤ 10) (mn : Int32) (K : Nat → Nat → Int32) (v1 : Int32) : cu_I l D C yX2_stands wsX2_stands { frames := 2, cells := 0, slots := 0, locals := 43 } [.ref o, .int v1] (cu_mw C o r q th (nI N) mn K) (cu_mw C o r q (k_c1 N v1) (nI N) mn K) (if k_c1 N v1 = 0 then k_stand (K v1.toNatClampNeg) else 0) 0 0 := by
  refine cu_openI (cc := cX2_stands) (maxL := 2) (ty := .int) (own := RX2) (by decide) rfl rfl (Nat.le_of_ble_eq_true rfl) ?_
  intro p e s m args below meth c A Z H0 ls e0 hx hb hml hts hown hnm hG hP hD hS hA hl fin
  have hK := hG.1
  have hl : lv_has ls 2 [(0, .ref o), (1, .int v1)] := hl
  have hiX2 : ∀ w ∈ wsX20, w ∈ wsX2_stands := by decide +kernel
  refine lv_aload_n hx hb dX2_stands_0 rfl (lv_at hl 0 rfl) ?_
  refine lv_iconst (v := 0) hx hb dX2_stands_1 (by decide) ?_
  refine va_put (D := D) (ci := 2) (v := .int 0) (ty := .int) (C := RX2) (T := TX2) (N := 4) hx hb hts hiX2 tyX2 tyX2_ok nmX2 hown hK hP hD hS 0 rfl rfl 0 (by decide) (hts (.fieldLink RX2 16 "CuckooShopModel" "thrown" "I") (by decide +kernel)) (fun _ h9 => h9) rfl (by decide +kernel) rfl rfl (Nat.le_of_ble_eq_true rfl) dX2_stands_2 (fun H locs hP hD hS => ?_)
  have hP : va_P D vwCl (cu_mw C o r q 0 (nI N) mn K) H := hP
  have hD : va_D A (cu_mw C o r q 0 (nI N) mn K) := hD
  refine lv_aload_n hx hb dX2_stands_5 rfl (lv_at hl 0 rfl) ?_
  refine lv_iload_n hx hb dX2_stands_6 rfl (lv_at hl 1 rfl) ?_
  have sp := cu_sp.all (W0 := (cu_mw C o r q 0 (nI N) mn K)) (W1 := (cu_mw C o r q 0 (nI N) mn K)) rfl
  refine cu_callI (va_runV (As := [.int v1]) (rest := []) ⟨hx, hb, hml, hown, hts⟩ ((m_X2_isClock l D C o r q 0 N hN mn K v1) H.size) (cwV 1 hts gX2_stands_X2_isClock rfl rfl rfl (by decide +kernel) ⟨Nat.le_of_ble_eq_true rfl, Nat.le_of_ble_eq_true rfl⟩) (cu_preV (ci := 2) sp hG hP hD rfl rfl) rfl rfl hl.1 rfl (lv_room (Nat.le_of_ble_eq_true rfl)) dX2_stands_7 ⟨Nat.le_of_ble_eq_true rfl, Nat.le_of_ble_eq_true rfl⟩) sp hP hD hS hA (fun H locs hP hD hS => ?_)
  have hP : va_P D vwCl (cu_mw C o r q 0 (nI N) mn K) H := hP
  have hD : va_D A (cu_mw C o r q 0 (nI N) mn K) := hD
  refine lv_if_ne (tgt := 19) hx hb dX2_stands_10 (by decide) (fun c_10 => ?_) (fun c_10 => ?_)
  · obtain ⟨i, hiN, rfl⟩ := k_isC_in hN c_10
    have hi : i < 10 := by omega
    have hcl9 : (nI i).toNatClampNeg = i := nI_clamp (by omega)
    refine lv_aload_n hx hb dX2_stands_19 rfl (lv_at hl 0 rfl) ?_
    refine lv_iload_n hx hb dX2_stands_20 rfl (lv_at hl 1 rfl) ?_
    refine lv_iconst (v := 5) hx hb dX2_stands_21 (by decide) ?_
    have sp := cu_sp.all (W0 := (cu_mw C o r q 0 (nI N) mn K)) (W1 := (cu_mw C o r q 0 (nI N) mn K)) rfl
    refine cu_callI (va_runV (As := [.int (nI i), .int 5]) (rest := []) ⟨hx, hb, hml, hown, hts⟩ ((m_X2_sh l D C o r q 0 N hN mn K i 5 hi (by decide) (K i 5) rfl) H.size) (cwV 2 hts gX2_stands_X2_sh rfl rfl rfl (by decide +kernel) ⟨Nat.le_of_ble_eq_true rfl, Nat.le_of_ble_eq_true rfl⟩) (cu_preV (ci := 2) sp hG hP hD rfl rfl) rfl rfl hl.1 rfl (lv_room (Nat.le_of_ble_eq_true rfl)) dX2_stands_22 ⟨Nat.le_of_ble_eq_true rfl, Nat.le_of_ble_eq_true rfl⟩) sp hP hD hS hA (fun H locs hP hD hS => ?_)
    have hP : va_P D vwCl (cu_mw C o r q 0 (nI N) mn K) H := hP
    have hD : va_D A (cu_mw C o r q 0 (nI N) mn K) := hD
    refine lv_if_ne (tgt := 32) hx hb dX2_stands_25 (by decide) (fun c_25 => ?_) (fun c_25 => ?_)
    · refine lv_aload_n hx hb dX2_stands_32 rfl (lv_at hl 0 rfl) ?_
      refine lv_iload_n hx hb dX2_stands_33 rfl (lv_at hl 1 rfl) ?_
      refine lv_iconst (v := 2) hx hb dX2_stands_34 (by decide) ?_
      have sp := cu_sp.all (W0 := (cu_mw C o r q 0 (nI N) mn K)) (W1 := (cu_mw C o r q 0 (nI N) mn K)) rfl
      refine cu_callI (va_runV (As := [.int (nI i), .int 2]) (rest := []) ⟨hx, hb, hml, hown, hts⟩ ((m_X2_sh l D C o r q 0 N hN mn K i 2 hi (by decide) (K i 2) rfl) H.size) (cwV 2 hts gX2_stands_X2_sh rfl rfl rfl (by decide +kernel) ⟨Nat.le_of_ble_eq_true rfl, Nat.le_of_ble_eq_true rfl⟩) (cu_preV (ci := 2) sp hG hP hD rfl rfl) rfl rfl hl.1 rfl (lv_room (Nat.le_of_ble_eq_true rfl)) dX2_stands_35 ⟨Nat.le_of_ble_eq_true rfl, Nat.le_of_ble_eq_true rfl⟩) sp hP hD hS hA (fun H locs hP hD hS => ?_)
      have hP : va_P D vwCl (cu_mw C o r q 0 (nI N) mn K) H := hP
      have hD : va_D A (cu_mw C o r q 0 (nI N) mn K) := hD
      exact fin _ _ _ _ _ rfl (by have e : k_c1 N (nI i) = 0 := (by simp (decide := true) only [k_c1, if_neg c_10, if_neg c_25]); rw [e, if_pos rfl, hcl9]; simp only [k_stand, if_neg c_10, if_neg c_25]) (by have e : k_c1 N (nI i) = 0 := (by simp (decide := true) only [k_c1, if_neg c_10, if_neg c_25]); rw [e]; exact hP) hS dX2_stands_38
    · refine lv_iconst (v := 0) hx hb dX2_stands_28 (by decide) ?_
      refine lv_goto (tgt := 38) hx hb dX2_stands_29 (by decide) ?_
      exact fin _ _ _ _ _ rfl (by have e : k_c1 N (nI i) = 0 := (by simp (decide := true) only [k_c1, if_neg c_10, if_pos c_25]); rw [e, if_pos rfl, hcl9]; simp only [k_stand, if_neg c_10, if_pos c_25]) (by have e : k_c1 N (nI i) = 0 := (by simp (decide := true) only [k_c1, if_neg c_10, if_pos c_25]); rw [e]; exact hP) hS dX2_stands_38
  · refine lv_aload_n hx hb dX2_stands_13 rfl (lv_at hl 0 rfl) ?_
    refine lv_iconst (v := 1) hx hb dX2_stands_14 (by decide) ?_
    have sp := cu_sp.all (W0 := (cu_mw C o r q 0 (nI N) mn K)) (W1 := (cu_mw C o r q 1 (nI N) mn K)) cu_mw_fst
    refine cu_callI (va_runV (As := [.int 1]) (rest := []) ⟨hx, hb, hml, hown, hts⟩ ((m_X2_fail l D C o r q 0 N hN mn K 1) H.size) (cwV 1 hts gX2_stands_X2_fail rfl rfl rfl (by decide +kernel) ⟨Nat.le_of_ble_eq_true rfl, Nat.le_of_ble_eq_true rfl⟩) (cu_preV (ci := 2) sp hG hP hD rfl rfl) rfl rfl hl.1 rfl (lv_room (Nat.le_of_ble_eq_true rfl)) dX2_stands_15 ⟨Nat.le_of_ble_eq_true rfl, Nat.le_of_ble_eq_true rfl⟩) sp hP hD hS hA (fun H locs hP hD hS => ?_)
    have hP : va_P D vwCl (cu_mw C o r q 1 (nI N) mn K) H := hP
    have hD : va_D A (cu_mw C o r q 1 (nI N) mn K) := hD
    exact fin _ _ _ _ _ rfl (by have e : k_c1 N v1 = 1 := (by simp (decide := true) only [k_c1, if_pos c_10]); rw [e, if_neg (by decide)]) (by have e : k_c1 N v1 = 1 := (by simp (decide := true) only [k_c1, if_pos c_10]); rw [e]; exact hP) hS dX2_stands_18
