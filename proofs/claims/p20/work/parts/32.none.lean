/-! calls that don't throw -/
theorem k_oC_n {N i : Nat} (hN : N ≤ 10) (hi : i < N) : k_oC N (nI i) = none := by
  have e0 : (0 : Int32).toInt = 0 := by decide
  unfold k_oC
  rw [if_neg (by rw [i_lt, nI_toInt (by omega), e0]; omega), if_pos (by rw [i_lt, nI_toInt (by omega), nI_toInt (by omega)]; omega)]
theorem k_isW_n {x lo hi : Int32} (h1 : lo.toInt ≤ x.toInt) (h2 : x.toInt ≤ hi.toInt) : k_isW x lo hi = 1 := by
  unfold k_isW
  rw [if_neg (by rw [i_lt]; omega), if_neg (by rw [i_lt]; omega)]
theorem e_0 : (0 : Int32).toInt = 0 := by decide
theorem e_1 : (1 : Int32).toInt = 1 := by decide
theorem e_3 : (3 : Int32).toInt = 3 := by decide
theorem e_7 : (7 : Int32).toInt = 7 := by decide
theorem e_10 : (10 : Int32).toInt = 10 := by decide
theorem e_719 : (719 : Int32).toInt = 719 := by decide
theorem e_720 : (720 : Int32).toInt = 720 := by decide
theorem k_oT_n {x : Int32} (h1 : 0 ≤ x.toInt) (h2 : x.toInt < 720) : k_oT x = none := by
  unfold k_oT
  rw [k_isW_n (x := x) (lo := 0) (hi := 719) (by rw [e_0]; omega) (by rw [e_719]; omega), if_neg (by decide)]
theorem k_oG_n {a b s : Int32} (ha : 20 ≤ a.toInt ∧ a.toInt ≤ 40) (hb : 20 ≤ b.toInt ∧ b.toInt ≤ 40) (hs : -20 ≤ s.toInt ∧ s.toInt ≤ 20) : k_oG a b s = none := by
  have e20 : (20 : Int32).toInt = 20 := by decide
  have e40 : (40 : Int32).toInt = 40 := by decide
  have em : (-20 : Int32).toInt = -20 := by decide
  unfold k_oG
  rw [k_isW_n (x := a) (lo := 20) (hi := 40) (by omega) (by omega), k_isW_n (x := b) (lo := 20) (hi := 40) (by omega) (by omega), k_isW_n (x := s) (lo := -20) (hi := 20) (by omega) (by omega)]
  decide
theorem k_oS_n {f t : Int32} (hf : (f = -1 ∧ t = 0) ∨ (0 ≤ f.toInt ∧ f.toInt < 720)) (ht : 0 ≤ t.toInt ∧ t.toInt < 720) : k_oS f t = none := by
  unfold k_oS k_oS3
  rw [k_oT_n ht.1 ht.2]
  rcases hf with ⟨e1, e2⟩ | ⟨h1, h2⟩
  · rw [if_pos e1, if_pos e1, if_pos e2]; rfl
  · have hn : ¬ f = -1 := fun z => by rw [z] at h1; exact absurd h1 (by decide)
    rw [if_neg hn, if_neg hn, k_oT_n h1 h2]; rfl
theorem k_oM_n {t : Nat} (h1 : 1 ≤ t) (h2 : t ≤ 720) : k_oM (nI t) = none := by
  have e := nI_toInt (n := t) (by omega)
  unfold k_oM
  rw [k_isW_n (x := nI t) (lo := 1) (hi := 720) (by rw [e, e_1]; omega) (by rw [e, e_720]; omega), if_neg (by decide)]
theorem k_oN_n {N : Nat} (h : N < 10) : k_oN N = none := by
  unfold k_oN
  rw [if_pos (by rw [i_lt, nI_toInt (by omega), e_10]; omega)]
theorem k_oR_n {w : Nat} (h : w < 11) : k_oR (nI w) = none := by
  have e := nI_toInt (n := w) (by omega)
  unfold k_oR
  rw [k_isW_n (x := nI w) (lo := 0) (hi := 10) (by rw [e, e_0]; omega) (by rw [e, e_10]; omega), if_neg (by decide)]
theorem k_oY_n {w : Nat} (h : w < 8) : k_oY (nI w) = none := by
  have e := nI_toInt (n := w) (by omega)
  unfold k_oY
  rw [k_isW_n (x := nI w) (lo := 0) (hi := 7) (by rw [e, e_0]; omega) (by rw [e, e_7]; omega), if_neg (by decide)]
theorem o2n {o p : Option String} (h1 : o = none) (h2 : p = none) : o.or p = none := by rw [h1, h2]; rfl
theorem n_come (l : Launch) (hlf : l.stackTraces = false) (D : va_G) (C : Nat → ClassId) (a : Nat → Nat) (N : Nat) (hN : N ≤ 10) (mn : Int32) (K P : Nat → Nat → Int32) (hN1 : N < 10) (v : Int32) (hv : 0 ≤ v.toInt ∧ v.toInt < 720) : cu_XI l D C yX1_come wsX1_come { frames := 7, cells := 2, slots := 12, locals := 102 } [.ref (a 0), .int v] (cu_cw C a (nI N) mn K P) (cu_cw C a (nI (N + 1)) mn (va_up K N (upd (upd (K N) 0 v) 1 0)) P) none (nI N) 2 12 := by
  have h := m_X1_come l hlf D C a N hN mn K P v
  rw [o2n (k_oT_n hv.1 hv.2) (k_oN_n hN1)] at h
  exact h
theorem n_gear (l : Launch) (hlf : l.stackTraces = false) (D : va_G) (C : Nat → ClassId) (a : Nat → Nat) (N : Nat) (hN : N ≤ 10) (mn : Int32) (K P : Nat → Nat → Int32) (i : Nat) (hi : i < N) (v2 v3 v4 : Int32) (ha : 20 ≤ v2.toInt ∧ v2.toInt ≤ 40) (hb : 20 ≤ v3.toInt ∧ v3.toInt ≤ 40) (hs : -20 ≤ v4.toInt ∧ v4.toInt ≤ 20) : cu_XI l D C yX1_gear wsX1_gear { frames := 7, cells := 2, slots := 12, locals := 103 } [.ref (a 0), .int (nI i), .int v2, .int v3, .int v4] (cu_cw C a (nI N) mn K P) (cu_cw C a (nI N) mn (va_up K i (upd (upd (upd (K i) 9 v2) 10 v3) 11 v4)) P) none (k_adv (upd (upd (upd (K i) 9 v2) 10 v3) 11 v4)) 2 12 := by
  have h := m_X1_gear l hlf D C a N hN mn K P (nI i) v2 v3 v4
  rw [o2n (k_oC_n hN hi) (k_oG_n ha hb hs), nI_clamp (by omega)] at h
  exact h
theorem n_set (l : Launch) (hlf : l.stackTraces = false) (D : va_G) (C : Nat → ClassId) (a : Nat → Nat) (N : Nat) (hN : N ≤ 10) (mn : Int32) (K P : Nat → Nat → Int32) (i : Nat) (hi : i < N) (v : Int32) (hv : 0 ≤ v.toInt ∧ v.toInt < 720) : cu_XI l D C yX1_set wsX1_set { frames := 7, cells := 2, slots := 12, locals := 103 } [.ref (a 0), .int (nI i), .int v] (cu_cw C a (nI N) mn K P) (cu_cw C a (nI N) mn (va_up K i (upd (upd (K i) 0 v) 1 0)) P) none (k_off (K i) mn) 2 12 := by
  have h := m_X1_set l hlf D C a N hN mn K P (nI i) v
  rw [o2n (k_oC_n hN hi) (k_oT_n hv.1 hv.2), nI_clamp (by omega)] at h
  exact h
theorem n_wind (l : Launch) (hlf : l.stackTraces = false) (D : va_G) (C : Nat → ClassId) (a : Nat → Nat) (N : Nat) (hN : N ≤ 10) (mn : Int32) (K P : Nat → Nat → Int32) (i : Nat) (hi : i < N) : cu_XI l D C yX1_wind wsX1_wind { frames := 7, cells := 1, slots := 6, locals := 103 } [.ref (a 0), .int (nI i)] (cu_cw C a (nI N) mn K P) (cu_cw C a (nI N) mn (va_up K i (upd (upd (K i) 2 600) 5 1)) P) none (600 - K i 2) 1 6 := by
  have h := m_X1_wind l hlf D C a N hN mn K P (nI i)
  rw [k_oC_n hN hi, nI_clamp (by omega)] at h
  exact h
theorem n_mend (l : Launch) (hlf : l.stackTraces = false) (D : va_G) (C : Nat → ClassId) (a : Nat → Nat) (N : Nat) (hN : N ≤ 10) (mn : Int32) (K P : Nat → Nat → Int32) (i : Nat) (hi : i < N) (v : Int32) (hv : k_oE v = none) : cu_XI l D C yX1_mend wsX1_mend { frames := 7, cells := 2, slots := 12, locals := 103 } [.ref (a 0), .int (nI i), .int v] (cu_cw C a (nI N) mn K P) (cu_cw C a (nI N) mn (va_up K i (k_mendK (K i) v)) P) none (k_mendV (K i) v) 2 12 := by
  have h := m_X1_mend l hlf D C a N hN mn K P (nI i) v
  rw [o2n (k_oC_n hN hi) hv, nI_clamp (by omega)] at h
  exact h
theorem n_shut (l : Launch) (hlf : l.stackTraces = false) (D : va_G) (C : Nat → ClassId) (a : Nat → Nat) (N : Nat) (hN : N ≤ 10) (mn : Int32) (K P : Nat → Nat → Int32) (i : Nat) (hi : i < N) (v2 v3 : Int32) (hf : (v2 = -1 ∧ v3 = 0) ∨ (0 ≤ v2.toInt ∧ v2.toInt < 720)) (ht : 0 ≤ v3.toInt ∧ v3.toInt < 720) : cu_XI l D C yX1_shut wsX1_shut { frames := 7, cells := 3, slots := 18, locals := 103 } [.ref (a 0), .int (nI i), .int v2, .int v3] (cu_cw C a (nI N) mn K P) (cu_cw C a (nI N) mn (va_up K i (upd (upd (K i) 12 v2) 13 v3)) P) none (K i 12) 3 18 := by
  have h := m_X1_shut l hlf D C a N hN mn K P (nI i) v2 v3
  rw [o2n (k_oC_n hN hi) (k_oS_n hf ht), nI_clamp (by omega)] at h
  exact h
theorem n_clock (l : Launch) (hlf : l.stackTraces = false) (D : va_G) (C : Nat → ClassId) (a : Nat → Nat) (N : Nat) (hN : N ≤ 10) (mn : Int32) (K P : Nat → Nat → Int32) (i : Nat) (hi : i < N) (v : Int32) (hv : k_oR v = none) : cu_XI l D C yX1_clock wsX1_clock { frames := 7, cells := 2, slots := 12, locals := 103 } [.ref (a 0), .int (nI i), .int v] (cu_cw C a (nI N) mn K P) (cu_cw C a (nI N) mn K P) none (k_read (K i) v) 2 12 := by
  have h := m_X1_clock l hlf D C a N hN mn K P (nI i) v
  rw [o2n (k_oC_n hN hi) hv, nI_clamp (by omega)] at h
  exact h
theorem n_off (l : Launch) (hlf : l.stackTraces = false) (D : va_G) (C : Nat → ClassId) (a : Nat → Nat) (N : Nat) (hN : N ≤ 10) (mn : Int32) (K P : Nat → Nat → Int32) (i : Nat) (hi : i < N) : cu_XI l D C yX1_off wsX1_off { frames := 7, cells := 1, slots := 6, locals := 103 } [.ref (a 0), .int (nI i)] (cu_cw C a (nI N) mn K P) (cu_cw C a (nI N) mn K P) none (k_off (K i) mn) 1 6 := by
  have h := m_X1_off l hlf D C a N hN mn K P (nI i)
  rw [k_oC_n hN hi, nI_clamp (by omega)] at h
  exact h
theorem n_count (l : Launch) (hlf : l.stackTraces = false) (D : va_G) (C : Nat → ClassId) (a : Nat → Nat) (N : Nat) (hN : N ≤ 10) (mn : Int32) (K P : Nat → Nat → Int32) (v : Int32) (hv : k_oY v = none) : cu_XI l D C yX1_count wsX1_count { frames := 6, cells := 1, slots := 6, locals := 109 } [.ref (a 0), .int v] (cu_cw C a (nI N) mn K P) (cu_cw C a (nI N) mn K P) none (k_tally N K mn v) 1 6 := by
  have h := m_X1_count l hlf D C a N hN mn K P v
  rw [hv] at h
  exact h
theorem n_pass (l : Launch) (hlf : l.stackTraces = false) (D : va_G) (C : Nat → ClassId) (a : Nat → Nat) (N : Nat) (hN : N ≤ 10) (mn : Int32) (K P : Nat → Nat → Int32) (t : Nat) (h1 : 1 ≤ t) (h2 : t ≤ 720) : cu_XI l D C yX1_pass wsX1_pass { frames := 7, cells := 1, slots := 6, locals := 110 } [.ref (a 0), .int (nI t)] (cu_cw C a (nI N) mn K P) (cu_cw C a (nI N) (mn + nI t) (k_at N mn K t) P) none (k_calls N mn K t) 1 6 := by
  have h := m_X1_pass l hlf D C a N hN mn K P (nI t)
  rw [k_oM_n h1 h2, nI_clamp (by omega)] at h
  exact h
theorem n_next (l : Launch) (hlf : l.stackTraces = false) (D : va_G) (C : Nat → ClassId) (a : Nat → Nat) (N : Nat) (hN : N ≤ 10) (mn : Int32) (K P : Nat → Nat → Int32) (h5 : ∀ c, c < N → K c 5 = 0 ∨ K c 5 = 1) (i : Nat) (hi : i < N) : cu_XI l D C yX1_next wsX1_next { frames := 7, cells := 1, slots := 6, locals := 103 } [.ref (a 0), .int (nI i)] (cu_cw C a (nI N) mn K P) (cu_cw C a (nI N) mn K (va_up P i (k_nextS mn (K i) 720 0))) none (k_next mn (K i)) 1 6 := by
  have h := m_X1_next l hlf D C a N hN mn K P (nI i) h5
  rw [k_oC_n hN hi, nI_clamp (by omega)] at h
  exact h
theorem n_stands (l : Launch) (hlf : l.stackTraces = false) (D : va_G) (C : Nat → ClassId) (a : Nat → Nat) (N : Nat) (hN : N ≤ 10) (mn : Int32) (K P : Nat → Nat → Int32) (i : Nat) (hi : i < N) : cu_XI l D C yX1_stands wsX1_stands { frames := 7, cells := 1, slots := 6, locals := 103 } [.ref (a 0), .int (nI i)] (cu_cw C a (nI N) mn K P) (cu_cw C a (nI N) mn K P) none (k_stand (K i)) 1 6 := by
  have h := m_X1_stands l hlf D C a N hN mn K P (nI i)
  rw [k_oC_n hN hi, nI_clamp (by omega)] at h
  exact h
theorem n_foresee (l : Launch) (hlf : l.stackTraces = false) (D : va_G) (C : Nat → ClassId) (a : Nat → Nat) (N : Nat) (hN : N ≤ 10) (mn : Int32) (K P : Nat → Nat → Int32) (h5 : ∀ c, c < N → K c 5 = 0 ∨ K c 5 = 1) (v : Int32) (hv : k_oF v = none) : cu_XI l D C yX1_foresee wsX1_foresee { frames := 7, cells := 2, slots := 12, locals := 110 } [.ref (a 0), .int (nI 1), .int v] (cu_cw C a (nI N) mn K P) (cu_cw C a (nI N) mn K (k_at N mn (k_cpy K P N) 1)) none (k_fore N mn K (k_cpy K P N) 1 v) 2 12 := by
  have h := m_X1_foresee l hlf D C a N hN mn K P (nI 1) v h5
  rw [o2n (k_oM_n (Nat.le_refl 1) (by omega)) hv, nI_clamp (by omega)] at h
  exact h
/-! the law's own small methods -/
theorem k_ltn {k L : Nat} (hk : k < 2147483648) (hL : L < 2147483648) (h : ¬ nI L ≤ nI k) : k < L := by
  rw [i_le, nI_toInt hk, nI_toInt hL] at h
  omega
set_option maxHeartbeats 4000000 in
set_option maxRecDepth 100000 in
theorem m_L_cell (l : Launch) (D : va_G) (C : Nat → ClassId) (b L : Nat) (xs : Nat → Int32) (hL : L ≤ 260) (k : Nat) (hk : k < 1000) : cu_GI l D C yL_cell wsL_cell { frames := 0, cells := 0, slots := 0, locals := 0 } [.ref b, .int (nI k)] ([] : va_W) (cu_xS b L xs) (fun (_ : Int32) (_ : Unit) => True) (fun _ => []) 0 0 := by
  refine cu_openGI (cc := cL_cell) (maxL := 2) (own := RL) (by decide) rfl rfl (Nat.le_of_ble_eq_true rfl) ?_
  intro p e s m args below meth c A Z H0 ls e0 hx hb hml hts hown hnm hG hP hD hS hA hl hE fin
  obtain ⟨hT, hX, hbl, hbA⟩ := hE
  rw [e0] at hX
  have hl : lv_has ls 2 [(0, .ref b), (1, .int (nI k))] := hl
  refine lv_iload_n hx hb dL_cell_0 rfl (lv_at hl 1 rfl) ?_
  refine lv_aload_n hx hb dL_cell_1 rfl (lv_at hl 0 rfl) ?_
  refine va_slen hx hb hX hbl hbA hS dL_cell_2 ?_
  refine lv_icmp_ge (tgt := 12) hx hb dL_cell_3 (by decide) (fun z => ?_) (fun z => ?_)
  · refine lv_ldc (v := 790386105) hx hb hown (hts (.constant RL 8 (790386105)) (by decide +kernel)) dL_cell_12 ?_
    refine lv_iload_n hx hb dL_cell_14 rfl (lv_at hl 1 rfl) ?_
    refine lv_iconst (v := 3) hx hb dL_cell_15 (by decide) ?_
    refine lv_iadd hx hb dL_cell_16 ?_
    refine lv_imul hx hb dL_cell_17 ?_
    exact fin () _ _ _ _ _ rfl trivial hP hD hS dL_cell_18
  · refine lv_aload_n hx hb dL_cell_6 rfl (lv_at hl 0 rfl) ?_
    refine lv_iload_n hx hb dL_cell_7 rfl (lv_at hl 1 rfl) ?_
    refine va_sld hx hb hX hbl hbA hS (vp_in_nI (k_ltn (by omega) (by omega) (show ¬ nI L ≤ nI k from z)) (by omega)) dL_cell_8 ?_
    refine lv_goto (tgt := 18) hx hb dL_cell_9 (by decide) ?_
    exact fin () _ _ _ _ _ rfl trivial hP hD hS dL_cell_18
set_option maxHeartbeats 4000000 in
set_option maxRecDepth 100000 in
theorem m_L_below (l : Launch) (D : va_G) (C : Nat → ClassId) (v1 v2 : Int32) (hb0 : ¬ v2 = 0) : cu_I l D C yL_below wsL_below { frames := 0, cells := 0, slots := 0, locals := 0 } [.int v1, .int v2] ([] : va_W) ([] : va_W) (k_bel v1 v2) 0 0 := by
  refine cu_openI (cc := cL_below) (maxL := 2) (ty := .int) (own := RL) (by decide) rfl rfl (Nat.le_of_ble_eq_true rfl) ?_
  intro p e s m args below meth c A Z H0 ls e0 hx hb hml hts hown hnm hG hP hD hS hA hl fin
  have hK := hG.1
  have hl : lv_has ls 2 [(0, .int v1), (1, .int v2)] := hl
  refine lv_iload_n hx hb dL_below_0 rfl (lv_at hl 0 rfl) ?_
  refine lv_ldc (v := 2147483647) hx hb hown (hts (.constant RL 7 (2147483647)) (by decide +kernel)) dL_below_1 ?_
  refine lv_iand hx hb dL_below_3 ?_
  refine lv_iload_n hx hb dL_below_4 rfl (lv_at hl 1 rfl) ?_
  refine lv_irem hx hb dL_below_5 hb0 ?_
  exact fin _ _ _ _ _ rfl (by rfl) hP hS dL_below_6
