/-! THE LAW'S CASES: each from its first instruction to the step of the loop -/
def lw_cx (p : Program) (l : Launch) (s : State) (m : MethodId) (args : Array Value) (c : Code) (A : Nat → Prop) (H0 : Heap) (D : va_G) (C : Nat → ClassId) (sb L : Nat) (xs : Nat → Int32) : Prop :=
  p.tables.exec = Jvm.exec ∧ c.code = cL_law ∧ c.maxLocals = 9 ∧ (∀ w ∈ wsL_law, w.before args s = true) ∧ s.vm.findClass RL = some m.cls ∧ cu_G D C s ∧ cu_T A s H0 ∧ va_X sb L xs s H0 ∧ sb < H0.size ∧ ¬ A sb ∧ (∀ q : Nat, H0.size ≤ q → A q) ∧ l.stackTraces = false
abbrev lw_w (C : Nat → ClassId) (o r q : Nat) (th : Int32) (N : Nat) (mn : Int32) (M : Nat → Nat → Int32) (a : Nat → Nat) (K P : Nat → Nat → Int32) (out : Nat) (f : Nat → Int64) : va_W := cu_mw C o r q th (nI N) mn M ++ (cu_cw C a (nI N) mn K P ++ cu_ou C out f)
theorem lw_cmp (x : Int64) : lg_cmp x x = 0 := by simp [lg_cmp]
theorem lw_ix {i k L : Nat} (h : i + 5 ≤ L) (hL : L ≤ 2560) (hk : k < 5) : vp_in (nI (i + k)) L := vp_in_nI (by omega) (by omega)
theorem lw_ik (i k : Nat) : nI i + nI k = nI (i + k) := by rw [nI_add]
theorem k_cA_0 {N : Nat} {v : Int32} (hN : N ≤ 10) (h : k_cA N v = 0) : ¬ k_isW v 0 719 = 0 ∧ N < 10 := by
  unfold k_cA at h
  by_cases h1 : k_isW v 0 719 = 0
  · rw [if_pos h1] at h; exact absurd h (by decide)
  · rw [if_neg h1] at h
    refine ⟨h1, ?_⟩
    rcases Nat.lt_or_ge N 10 with h2 | h2
    · exact h2
    · rw [if_pos (by rw [show N = 10 by omega]; rfl)] at h
      exact absurd h (by decide)

set_option maxHeartbeats 4000000 in
set_option maxRecDepth 100000 in
theorem lw_op_come {p : Program} {l : Launch} {e : Env} {s : State} {m : MethodId} {args : Array Value} {below : List Frame} {meth : Method} {c : Code} {A : Nat → Prop} {Z : State → Prop} {H0 H : Heap} {locs : List Loc} {ls : Array Slot} {D : va_G} {C : Nat → ClassId} {sb L o r q out i b N cells slots : Nat} {xs : Nat → Int32} {a : Nat → Nat} {f : Nat → Int64} {mn th : Int32} {K P M : Nat → Nat → Int32}
    (X : lw_cx p l s m args c A H0 D C sb L xs) (I : k_iv N mn K M b) (hb9 : b < 512) (hi : i + 5 ≤ L) (hL : L ≤ 2560) (hP : va_P D vwCl (lw_w C o r q th N mn M a K P out f) H) (hD : va_D A (lw_w C o r q th N mn M a K P out f)) (hS : va_S A H0 H locs) (hl : lv_has ls 9 [(0, .ref sb), (1, .ref (a 0)), (2, .ref o), (3, .ref out), (4, .int (nI i))]) (hc9 : cells + 10 ≤ 601024) (hs9 : slots + 200 ≤ 7293034)
    (kk : ∀ (N1 : Nat) (mn1 th1 : Int32) (K1 P1 M1 : Nat → Nat → Int32) (f1 : Nat → Int64) (H : Heap) (locs : List Loc) (ls : Array Slot), k_iv N1 mn1 K1 M1 (b + 1) → va_P D vwCl (lw_w C o r q th1 N1 mn1 M1 a K1 P1 out f1) H → va_D A (lw_w C o r q th1 N1 mn1 M1 a K1 P1 out f1) → va_S A H0 H locs → lv_has ls 9 [(0, .ref sb), (1, .ref (a 0)), (2, .ref o), (3, .ref out), (4, .int (nI i))] → W p l e room_1 s m args below meth c H locs (cells + 6) (slots + 170) Z (F0 m 1123 ls [])) : W p l e room_1 s m args below meth c H locs cells slots Z (F0 m 120 ls []) := by
  obtain ⟨hx, hb, hml, hts, hown, hG, hT, hX, hsb, hsA, hA, hlf⟩ := X
  have hK := hG.1
  have hN := I.1
  refine lv_aload_n hx hb dL_law_120 rfl (lv_at hl 1 rfl) ?_
  refine lv_aload_n hx hb dL_law_121 rfl (lv_at hl 0 rfl) ?_
  refine lv_iload hx hb dL_law_122 (lv_at hl 4 rfl) ?_
  refine lv_iconst (v := 1) hx hb dL_law_124 (by decide) ?_
  refine lv_iadd hx hb dL_law_125 ?_
  refine cu_top (x' := nI (i + 1)) (lw_ik i 1) ?_
  refine va_sld hx hb hX hsb hsA hS (lw_ix hi hL (by decide)) dL_law_126 ?_
  refine lv_topi (fun v1 ev1 => ?_)
  refine lv_aload_n hx hb dL_law_127 rfl (lv_at hl 3 rfl) ?_
  have sp := cu_sp.suf (X := (cu_mw C o r q th (nI N) mn M)) (w := (cu_cw C a (nI N) mn K P) ++ cu_ou C out f) (w' := (k_sel ((k_oT v1).or (k_oN N)) ((cu_cw C a (nI (N + 1)) mn (va_up K N (upd (upd (K N) 0 v1) 1 0)) P) ++ cu_ou C out (vp_updL f 0 ((nI N)).toInt64)) ((cu_cw C a (nI N) mn K P) ++ cu_ou C out f))) (k_sel_fst (by rw [List.map_append, List.map_append, cu_cw_fst]; rfl) rfl)
  refine cu_callI (vx_runSW (As := [.ref (a 0), .int v1, .ref out]) (rest := []) ⟨hx, hb, hml, hown, hts⟩ ((m_L_come l hlf D C a N hN mn K P v1 out f) H.size) (vx_cwSW 3 hts gL_law_L_come rfl rfl rfl (by decide +kernel) ⟨Nat.le_of_ble_eq_true rfl, Nat.le_of_ble_eq_true rfl⟩) (cu_preXS sp hG hP hD hT hS hA) rfl rfl hl.1 rfl (lv_room (Nat.le_of_ble_eq_true rfl)) dL_law_128 ⟨by show cells + 2 ≤ 601024; omega, by show slots + 12 ≤ 7293034; omega⟩) sp hP hD hS hA (fun H locs hP hD hS => ?_)
  refine cu_top (x' := k_cA N v1) (k_hc_A hN v1) ?_
  refine lv_istore (lv' := [(5, .int (k_cA N v1)), (0, .ref sb), (1, .ref (a 0)), (2, .ref o), (3, .ref out), (4, .int (nI i))]) hx hb dL_law_131 hl (by decide) rfl (fun ls hl => ?_)
  refine lv_aload_n hx hb dL_law_133 rfl (lv_at hl 3 rfl) ?_
  refine lv_aload_n hx hb dL_law_134 rfl (lv_at hl 1 rfl) ?_
  refine lv_iload hx hb dL_law_135 (lv_at hl 5 rfl) ?_
  refine lv_iconst (v := 1) hx hb dL_law_137 (by decide) ?_
  refine lv_iadd hx hb dL_law_138 ?_
  refine cu_top (x' := nI (i + 1)) (lw_ik i 1) ?_
  refine va_sld hx hb hX hsb hsA hS (lw_ix hi hL (by decide)) dL_law_139 ?_
  refine cu_top (x' := v1) ev1.symm ?_
  have sp := cu_sp.pre (w := (cu_mw C o r q th (nI N) mn M)) (w' := (cu_mw C o r q (k_cA N v1) (if k_cA N v1 = 0 then nI (N + 1) else nI N) mn (if k_cA N v1 = 0 then va_up M N (k_fresh v1) else M))) (Y := (k_sel ((k_oT v1).or (k_oN N)) ((cu_cw C a (nI (N + 1)) mn (va_up K N (upd (upd (K N) 0 v1) 1 0)) P) ++ cu_ou C out (vp_updL f 0 ((nI N)).toInt64)) ((cu_cw C a (nI N) mn K P) ++ cu_ou C out f))) cu_mw_fst
  refine cu_callI (va_runV (As := [.int v1]) (rest := []) ⟨hx, hb, hml, hown, hts⟩ ((m_X2_come l D C o r q th N hN mn M v1) H.size) (cwV 1 hts gL_law_X2_come rfl rfl rfl (by decide +kernel) ⟨Nat.le_of_ble_eq_true rfl, Nat.le_of_ble_eq_true rfl⟩) (cu_preV (ci := 2) sp hG hP hD rfl rfl) rfl rfl hl.1 rfl (lv_room (Nat.le_of_ble_eq_true rfl)) dL_law_140 ⟨by show cells + 2 + 1 ≤ 601024; omega, by show slots + 12 + 14 ≤ 7293034; omega⟩) sp hP hD hS hA (fun H locs hP hD hS => ?_)
  refine lv_istore (lv' := [(6, .int (if k_cA N v1 = 0 then nI N else 0)), (5, .int (k_cA N v1)), (0, .ref sb), (1, .ref (a 0)), (2, .ref o), (3, .ref out), (4, .int (nI i))]) hx hb dL_law_143 hl (by decide) rfl (fun ls hl => ?_)
  by_cases hc : k_cA N v1 = 0
  · have ho : ((k_oT v1).or (k_oN N)) = none := k_hc_0 ((k_hc_A hN v1).trans hc)
    have q0 := k_cA_0 hN hc
    have hP : va_P D vwCl (lw_w C o r q 0 (N + 1) mn (va_up M N (k_fresh v1)) a (va_up K N (upd (upd (K N) 0 v1) 1 0)) P out (vp_updL f 0 ((nI N)).toInt64)) H := by
      rw [ho, if_pos hc, if_pos hc, hc] at hP
      exact hP
    have hD : va_D A (lw_w C o r q 0 (N + 1) mn (va_up M N (k_fresh v1)) a (va_up K N (upd (upd (K N) 0 v1) 1 0)) P out (vp_updL f 0 ((nI N)).toInt64)) := by
      rw [ho, if_pos hc, if_pos hc, hc] at hD
      exact hD
    have J := I.come q0.2 q0.1
    refine lv_aload_n hx hb dL_law_145 rfl (lv_at hl 4 rfl) ?_
    have sp := cu_sp.pre (w := (cu_mw C o r q 0 (nI (N + 1)) mn (va_up M N (k_fresh v1)))) (w' := (cu_mw C o r q 0 (nI (N + 1)) mn (va_up M N (k_fresh v1)))) (Y := (cu_cw C a (nI (N + 1)) mn (va_up K N (upd (upd (K N) 0 v1) 1 0)) P ++ cu_ou C out (vp_updL f 0 ((nI N)).toInt64))) rfl
    refine cu_callI (va_runV (As := []) (rest := []) ⟨hx, hb, hml, hown, hts⟩ ((m_X2_thrown l D C o r q 0 (N + 1) J.1 mn (va_up M N (k_fresh v1))) H.size) (cwV 0 hts gL_law_X2_thrown rfl rfl rfl (by decide +kernel) ⟨Nat.le_of_ble_eq_true rfl, Nat.le_of_ble_eq_true rfl⟩) (cu_preV (ci := 2) sp hG hP hD rfl rfl) rfl rfl hl.1 rfl (lv_room (Nat.le_of_ble_eq_true rfl)) dL_law_146 ⟨by show cells + 2 + 1 + 0 ≤ 601024; omega, by show slots + 12 + 14 + 0 ≤ 7293034; omega⟩) sp hP hD hS hA (fun H locs hP hD hS => ?_)
    refine lv_iload hx hb dL_law_149 (lv_at hl 1 rfl) ?_
    refine lv_icmp_eq (tgt := 156) hx hb dL_law_151 (by decide) (fun _ => ?_) (fun z => absurd (hc.symm) z)
    refine lv_iload hx hb dL_law_156 (lv_at hl 1 rfl) ?_
    refine lv_if_ne (tgt := 173) hx hb dL_law_158 (by decide) (fun z => absurd hc z) (fun _ => ?_)
    refine lv_aload_n hx hb dL_law_161 rfl (lv_at hl 5 rfl) ?_
    refine lv_iconst (v := 0) hx hb dL_law_162 (by decide) ?_
    refine va_lald (f := (vp_updL f 0 ((nI N)).toInt64)) hx hb hK hP 26 2 rfl rfl (vp_in_nI (n := 0) (by decide) (by decide)) dL_law_163 ?_
    refine W.eq (g2 := F0 m 164 ls [.long ((nI N)).toInt64]) rfl ?_
    refine lv_iload hx hb dL_law_164 (lv_at hl 0 rfl) ?_
    refine cu_top (x' := (nI N)) ((if_pos hc)) ?_
    refine lv_i2l (v := ((nI N)).toInt64) hx hb dL_law_166 rfl ?_
    refine W.lcmp hx hb dL_law_167 ?_
    refine lv_if_eq (tgt := 173) hx hb dL_law_168 (by decide) (fun _ => ?_) (fun z => absurd (lw_cmp _) z)
    refine lv_goto (tgt := 1123) hx hb dL_law_173 (by decide) ?_
    refine W.widen (k := cells + 6) (n := slots + 170) (by omega) (by omega) ?_
    exact kk _ _ _ _ _ _ _ _ _ _ J hP hD hS (lv_sub hl [2, 3, 4, 5, 6] rfl)
  · obtain ⟨E, ho⟩ := k_hc_n (fun z => hc ((k_hc_A hN v1).symm.trans z))
    have hP : va_P D vwCl (lw_w C o r q (k_cA N v1) N mn M a K P out f) H := by
      rw [ho, if_neg hc, if_neg hc] at hP
      exact hP
    have hD : va_D A (lw_w C o r q (k_cA N v1) N mn M a K P out f) := by
      rw [ho, if_neg hc, if_neg hc] at hD
      exact hD
    refine lv_aload_n hx hb dL_law_145 rfl (lv_at hl 4 rfl) ?_
    have sp := cu_sp.pre (w := (cu_mw C o r q (k_cA N v1) (nI N) mn M)) (w' := (cu_mw C o r q (k_cA N v1) (nI N) mn M)) (Y := (cu_cw C a (nI N) mn K P ++ cu_ou C out f)) rfl
    refine cu_callI (va_runV (As := []) (rest := []) ⟨hx, hb, hml, hown, hts⟩ ((m_X2_thrown l D C o r q (k_cA N v1) N hN mn M) H.size) (cwV 0 hts gL_law_X2_thrown rfl rfl rfl (by decide +kernel) ⟨Nat.le_of_ble_eq_true rfl, Nat.le_of_ble_eq_true rfl⟩) (cu_preV (ci := 2) sp hG hP hD rfl rfl) rfl rfl hl.1 rfl (lv_room (Nat.le_of_ble_eq_true rfl)) dL_law_146 ⟨by show cells + 2 + 1 + 0 ≤ 601024; omega, by show slots + 12 + 14 + 0 ≤ 7293034; omega⟩) sp hP hD hS hA (fun H locs hP hD hS => ?_)
    refine lv_iload hx hb dL_law_149 (lv_at hl 1 rfl) ?_
    refine lv_icmp_eq (tgt := 156) hx hb dL_law_151 (by decide) (fun _ => ?_) (fun z => absurd (rfl) z)
    refine lv_iload hx hb dL_law_156 (lv_at hl 1 rfl) ?_
    refine lv_if_ne (tgt := 173) hx hb dL_law_158 (by decide) (fun _ => ?_) (fun z => absurd z hc)
    refine lv_goto (tgt := 1123) hx hb dL_law_173 (by decide) ?_
    refine W.widen (k := cells + 6) (n := slots + 170) (by omega) (by omega) ?_
    exact kk _ _ _ _ _ _ _ _ _ _ I.next hP hD hS (lv_sub hl [2, 3, 4, 5, 6] rfl)

theorem k_ix_c {N : Nat} {v : Int32} (hN : N ≤ 10) (h : ¬ k_isW v 0 (nI N - 1) = 0) : v.toNatClampNeg < N := by
  obtain ⟨j, hj, rfl⟩ := k_isC_in hN h
  rw [nI_clamp (by omega)]
  exact hj
theorem k_c1_0 {N : Nat} {v : Int32} (hN : N ≤ 10) (h : k_c1 N v = 0) : v.toNatClampNeg < N := by
  unfold k_c1 at h
  refine k_ix_c hN (fun z => ?_)
  rw [if_pos z] at h
  exact absurd h (by decide)
theorem k_if2 {A B : Prop} [Decidable A] [Decidable B] {x : Int32} {y : Int32} (hx : ¬ x = 0) (h : (if A then x else y) = 0) : ¬ A ∧ y = 0 := by
  by_cases hA : A
  · rw [if_pos hA] at h; exact absurd h hx
  · rw [if_neg hA] at h; exact ⟨hA, h⟩
theorem k_cG_0 {N : Nat} {v a b s : Int32} (hN : N ≤ 10) (h : k_cG N v a b s = 0) : v.toNatClampNeg < N ∧ ¬ k_isW a 20 40 = 0 ∧ ¬ k_isW b 20 40 = 0 ∧ ¬ k_isW s (-20) 20 = 0 := by
  unfold k_cG at h
  obtain ⟨h1, h⟩ := k_if2 (B := True) (by decide) h
  obtain ⟨h2, h⟩ := k_if2 (B := True) (by decide) h
  obtain ⟨h3, h⟩ := k_if2 (B := True) (by decide) h
  obtain ⟨h4, h⟩ := k_if2 (B := True) (by decide) h
  exact ⟨k_ix_c hN h1, h2, h3, h4⟩
theorem k_cT_0 {N : Nat} {v t : Int32} (hN : N ≤ 10) (h : k_cT N v t = 0) : v.toNatClampNeg < N ∧ ¬ k_isW t 0 719 = 0 := by
  unfold k_cT at h
  obtain ⟨h1, h⟩ := k_if2 (B := True) (by decide) h
  obtain ⟨h2, h⟩ := k_if2 (B := True) (by decide) h
  exact ⟨k_ix_c hN h1, h2⟩
theorem k_cE_0 {N : Nat} {v t : Int32} (hN : N ≤ 10) (h : k_cE N v t = 0) : v.toNatClampNeg < N := by
  unfold k_cE at h
  obtain ⟨h1, h⟩ := k_if2 (B := True) (by decide) h
  exact k_ix_c hN h1
theorem k_cH_0 {N : Nat} {v f t : Int32} (hN : N ≤ 10) (h : k_cH N v f t = 0) : v.toNatClampNeg < N ∧ ¬ k_isW f (-1) 719 = 0 ∧ ¬ k_isW t 0 719 = 0 := by
  unfold k_cH at h
  obtain ⟨h1, h⟩ := k_if2 (B := True) (by decide) h
  obtain ⟨h2, h⟩ := k_if2 (B := True) (by decide) h
  obtain ⟨h3, h⟩ := k_if2 (B := True) (by decide) h
  exact ⟨k_ix_c hN h1, h2, h3⟩
theorem k_cR_0 {N : Nat} {v t : Int32} (hN : N ≤ 10) (h : k_cR N v t = 0) : v.toNatClampNeg < N := by
  unfold k_cR at h
  obtain ⟨h1, h⟩ := k_if2 (B := True) (by decide) h
  exact k_ix_c hN h1
theorem k_cM_0 {t : Int32} (h : k_cM t = 0) : t.toNatClampNeg ≤ 720 ∧ nI t.toNatClampNeg = t := by
  unfold k_cM at h
  obtain ⟨h1, h⟩ := k_if2 (B := True) (by decide) h
  obtain ⟨j, -, hj, rfl⟩ := k_isM_in h1
  rw [nI_clamp (by omega)]
  exact ⟨hj, rfl⟩
theorem lw_m2 {N : Nat} {mn : Int32} {K M : Nat → Nat → Int32} {b : Nat} (I : k_iv N mn K M b) (hb : b < 512) : mn.toInt ≤ 1000000 := by
  have := I.2.2.2.2.2
  omega

set_option maxHeartbeats 4000000 in
set_option maxRecDepth 100000 in
theorem lw_op_gear {p : Program} {l : Launch} {e : Env} {s : State} {m : MethodId} {args : Array Value} {below : List Frame} {meth : Method} {c : Code} {A : Nat → Prop} {Z : State → Prop} {H0 H : Heap} {locs : List Loc} {ls : Array Slot} {D : va_G} {C : Nat → ClassId} {sb L o r q out i b N cells slots : Nat} {xs : Nat → Int32} {a : Nat → Nat} {f : Nat → Int64} {mn th : Int32} {K P M : Nat → Nat → Int32}
    (X : lw_cx p l s m args c A H0 D C sb L xs) (I : k_iv N mn K M b) (hb9 : b < 512) (hi : i + 5 ≤ L) (hL : L ≤ 2560) (hP : va_P D vwCl (lw_w C o r q th N mn M a K P out f) H) (hD : va_D A (lw_w C o r q th N mn M a K P out f)) (hS : va_S A H0 H locs) (hl : lv_has ls 9 [(0, .ref sb), (1, .ref (a 0)), (2, .ref o), (3, .ref out), (4, .int (nI i))]) (hc9 : cells + 10 ≤ 601024) (hs9 : slots + 200 ≤ 7293034)
    (kk : ∀ (N1 : Nat) (mn1 th1 : Int32) (K1 P1 M1 : Nat → Nat → Int32) (f1 : Nat → Int64) (H : Heap) (locs : List Loc) (ls : Array Slot), k_iv N1 mn1 K1 M1 (b + 1) → va_P D vwCl (lw_w C o r q th1 N1 mn1 M1 a K1 P1 out f1) H → va_D A (lw_w C o r q th1 N1 mn1 M1 a K1 P1 out f1) → va_S A H0 H locs → lv_has ls 9 [(0, .ref sb), (1, .ref (a 0)), (2, .ref o), (3, .ref out), (4, .int (nI i))] → W p l e room_1 s m args below meth c H locs (cells + 6) (slots + 170) Z (F0 m 1123 ls [])) : W p l e room_1 s m args below meth c H locs cells slots Z (F0 m 176 ls []) := by
  obtain ⟨hx, hb, hml, hts, hown, hG, hT, hX, hsb, hsA, hA, hlf⟩ := X
  have hK := hG.1
  have hN := I.1
  refine lv_aload_n hx hb dL_law_176 rfl (lv_at hl 1 rfl) ?_
  refine lv_aload_n hx hb dL_law_177 rfl (lv_at hl 0 rfl) ?_
  refine lv_iload hx hb dL_law_178 (lv_at hl 4 rfl) ?_
  refine lv_iconst (v := 1) hx hb dL_law_180 (by decide) ?_
  refine lv_iadd hx hb dL_law_181 ?_
  refine cu_top (x' := nI (i + 1)) (lw_ik i 1) ?_
  refine va_sld hx hb hX hsb hsA hS (lw_ix hi hL (by decide)) dL_law_182 ?_
  refine lv_topi (fun v1 ev1 => ?_)
  refine lv_aload_n hx hb dL_law_183 rfl (lv_at hl 0 rfl) ?_
  refine lv_iload hx hb dL_law_184 (lv_at hl 4 rfl) ?_
  refine lv_iconst (v := 2) hx hb dL_law_186 (by decide) ?_
  refine lv_iadd hx hb dL_law_187 ?_
  refine cu_top (x' := nI (i + 2)) (lw_ik i 2) ?_
  refine va_sld hx hb hX hsb hsA hS (lw_ix hi hL (by decide)) dL_law_188 ?_
  refine lv_topi (fun v2 ev2 => ?_)
  refine lv_aload_n hx hb dL_law_189 rfl (lv_at hl 0 rfl) ?_
  refine lv_iload hx hb dL_law_190 (lv_at hl 4 rfl) ?_
  refine lv_iconst (v := 3) hx hb dL_law_192 (by decide) ?_
  refine lv_iadd hx hb dL_law_193 ?_
  refine cu_top (x' := nI (i + 3)) (lw_ik i 3) ?_
  refine va_sld hx hb hX hsb hsA hS (lw_ix hi hL (by decide)) dL_law_194 ?_
  refine lv_topi (fun v3 ev3 => ?_)
  refine lv_aload_n hx hb dL_law_195 rfl (lv_at hl 0 rfl) ?_
  refine lv_iload hx hb dL_law_196 (lv_at hl 4 rfl) ?_
  refine lv_iconst (v := 4) hx hb dL_law_198 (by decide) ?_
  refine lv_iadd hx hb dL_law_199 ?_
  refine cu_top (x' := nI (i + 4)) (lw_ik i 4) ?_
  refine va_sld hx hb hX hsb hsA hS (lw_ix hi hL (by decide)) dL_law_200 ?_
  refine lv_topi (fun v4 ev4 => ?_)
  refine lv_aload_n hx hb dL_law_201 rfl (lv_at hl 3 rfl) ?_
  have sp := cu_sp.suf (X := (cu_mw C o r q th (nI N) mn M)) (w := (cu_cw C a (nI N) mn K P) ++ cu_ou C out f) (w' := (k_sel ((k_oC N v1).or (k_oG v2 v3 v4)) ((cu_cw C a (nI N) mn (va_up K v1.toNatClampNeg (upd (upd (upd (K v1.toNatClampNeg) 9 v2) 10 v3) 11 v4)) P) ++ cu_ou C out (vp_updL f 0 ((k_adv (upd (upd (upd (K v1.toNatClampNeg) 9 v2) 10 v3) 11 v4))).toInt64)) ((cu_cw C a (nI N) mn K P) ++ cu_ou C out f))) (k_sel_fst (by rw [List.map_append, List.map_append, cu_cw_fst]; rfl) rfl)
  refine cu_callI (vx_runSW (As := [.ref (a 0), .int v1, .int v2, .int v3, .int v4, .ref out]) (rest := []) ⟨hx, hb, hml, hown, hts⟩ ((m_L_gear l hlf D C a N hN mn K P v1 v2 v3 v4 out f) H.size) (vx_cwSW 6 hts gL_law_L_gear rfl rfl rfl (by decide +kernel) ⟨Nat.le_of_ble_eq_true rfl, Nat.le_of_ble_eq_true rfl⟩) (cu_preXS sp hG hP hD hT hS hA) rfl rfl hl.1 rfl (lv_room (Nat.le_of_ble_eq_true rfl)) dL_law_202 ⟨by show cells + 2 ≤ 601024; omega, by show slots + 12 ≤ 7293034; omega⟩) sp hP hD hS hA (fun H locs hP hD hS => ?_)
  refine cu_top (x' := k_cG N v1 v2 v3 v4) (k_hc_G hN v1 v2 v3 v4) ?_
  refine lv_istore (lv' := [(5, .int (k_cG N v1 v2 v3 v4)), (0, .ref sb), (1, .ref (a 0)), (2, .ref o), (3, .ref out), (4, .int (nI i))]) hx hb dL_law_205 hl (by decide) rfl (fun ls hl => ?_)
  refine lv_aload_n hx hb dL_law_207 rfl (lv_at hl 3 rfl) ?_
  refine lv_aload_n hx hb dL_law_208 rfl (lv_at hl 1 rfl) ?_
  refine lv_iload hx hb dL_law_209 (lv_at hl 5 rfl) ?_
  refine lv_iconst (v := 1) hx hb dL_law_211 (by decide) ?_
  refine lv_iadd hx hb dL_law_212 ?_
  refine cu_top (x' := nI (i + 1)) (lw_ik i 1) ?_
  refine va_sld hx hb hX hsb hsA hS (lw_ix hi hL (by decide)) dL_law_213 ?_
  refine cu_top (x' := v1) ev1.symm ?_
  refine lv_aload_n hx hb dL_law_214 rfl (lv_at hl 1 rfl) ?_
  refine lv_iload hx hb dL_law_215 (lv_at hl 5 rfl) ?_
  refine lv_iconst (v := 2) hx hb dL_law_217 (by decide) ?_
  refine lv_iadd hx hb dL_law_218 ?_
  refine cu_top (x' := nI (i + 2)) (lw_ik i 2) ?_
  refine va_sld hx hb hX hsb hsA hS (lw_ix hi hL (by decide)) dL_law_219 ?_
  refine cu_top (x' := v2) ev2.symm ?_
  refine lv_aload_n hx hb dL_law_220 rfl (lv_at hl 1 rfl) ?_
  refine lv_iload hx hb dL_law_221 (lv_at hl 5 rfl) ?_
  refine lv_iconst (v := 3) hx hb dL_law_223 (by decide) ?_
  refine lv_iadd hx hb dL_law_224 ?_
  refine cu_top (x' := nI (i + 3)) (lw_ik i 3) ?_
  refine va_sld hx hb hX hsb hsA hS (lw_ix hi hL (by decide)) dL_law_225 ?_
  refine cu_top (x' := v3) ev3.symm ?_
  refine lv_aload_n hx hb dL_law_226 rfl (lv_at hl 1 rfl) ?_
  refine lv_iload hx hb dL_law_227 (lv_at hl 5 rfl) ?_
  refine lv_iconst (v := 4) hx hb dL_law_229 (by decide) ?_
  refine lv_iadd hx hb dL_law_230 ?_
  refine cu_top (x' := nI (i + 4)) (lw_ik i 4) ?_
  refine va_sld hx hb hX hsb hsA hS (lw_ix hi hL (by decide)) dL_law_231 ?_
  refine cu_top (x' := v4) ev4.symm ?_
  have sp := cu_sp.pre (w := (cu_mw C o r q th (nI N) mn M)) (w' := (cu_mw C o r q (k_cG N v1 v2 v3 v4) (nI N) mn (if k_cG N v1 v2 v3 v4 = 0 then (va_up M v1.toNatClampNeg (upd (upd (upd (M v1.toNatClampNeg) 9 v2) 10 v3) 11 v4)) else M))) (Y := (k_sel ((k_oC N v1).or (k_oG v2 v3 v4)) ((cu_cw C a (nI N) mn (va_up K v1.toNatClampNeg (upd (upd (upd (K v1.toNatClampNeg) 9 v2) 10 v3) 11 v4)) P) ++ cu_ou C out (vp_updL f 0 ((k_adv (upd (upd (upd (K v1.toNatClampNeg) 9 v2) 10 v3) 11 v4))).toInt64)) ((cu_cw C a (nI N) mn K P) ++ cu_ou C out f))) cu_mw_fst
  refine cu_callI (va_runV (As := [.int v1, .int v2, .int v3, .int v4]) (rest := []) ⟨hx, hb, hml, hown, hts⟩ ((m_X2_gear l D C o r q th N hN mn M v1 v2 v3 v4) H.size) (cwV 4 hts gL_law_X2_gear rfl rfl rfl (by decide +kernel) ⟨Nat.le_of_ble_eq_true rfl, Nat.le_of_ble_eq_true rfl⟩) (cu_preV (ci := 2) sp hG hP hD rfl rfl) rfl rfl hl.1 rfl (lv_room (Nat.le_of_ble_eq_true rfl)) dL_law_232 ⟨by show cells + 2 + 0 ≤ 601024; omega, by show slots + 12 + 0 ≤ 7293034; omega⟩) sp hP hD hS hA (fun H locs hP hD hS => ?_)
  refine lv_istore (lv' := [(6, .int (if k_cG N v1 v2 v3 v4 = 0 then (k_adv (upd (upd (upd (M v1.toNatClampNeg) 9 v2) 10 v3) 11 v4)) else 0)), (5, .int (k_cG N v1 v2 v3 v4)), (0, .ref sb), (1, .ref (a 0)), (2, .ref o), (3, .ref out), (4, .int (nI i))]) hx hb dL_law_235 hl (by decide) rfl (fun ls hl => ?_)
  by_cases hc : k_cG N v1 v2 v3 v4 = 0
  · have ho : ((k_oC N v1).or (k_oG v2 v3 v4)) = none := k_hc_0 ((k_hc_G hN v1 v2 v3 v4).trans hc)
    have q0 := k_cG_0 hN hc
    have hP : va_P D vwCl (lw_w C o r q 0 N mn (va_up M v1.toNatClampNeg (upd (upd (upd (M v1.toNatClampNeg) 9 v2) 10 v3) 11 v4)) a (va_up K v1.toNatClampNeg (upd (upd (upd (K v1.toNatClampNeg) 9 v2) 10 v3) 11 v4)) P out (vp_updL f 0 ((k_adv (upd (upd (upd (K v1.toNatClampNeg) 9 v2) 10 v3) 11 v4))).toInt64)) H := by
      rw [ho, if_pos hc, hc] at hP
      exact hP
    have hD : va_D A (lw_w C o r q 0 N mn (va_up M v1.toNatClampNeg (upd (upd (upd (M v1.toNatClampNeg) 9 v2) 10 v3) 11 v4)) a (va_up K v1.toNatClampNeg (upd (upd (upd (K v1.toNatClampNeg) 9 v2) 10 v3) 11 v4)) P out (vp_updL f 0 ((k_adv (upd (upd (upd (K v1.toNatClampNeg) 9 v2) 10 v3) 11 v4))).toInt64)) := by
      rw [ho, if_pos hc, hc] at hD
      exact hD
    have J := I.put (X := (upd (upd (upd (K v1.toNatClampNeg) 9 v2) 10 v3) 11 v4)) (Y := (upd (upd (upd (M v1.toNatClampNeg) 9 v2) 10 v3) 11 v4)) q0.1 (by rw [I.2.2.1 _ q0.1]) (k_ok_gear (I.2.2.2.1 _ q0.1) q0.2.1 q0.2.2.1 q0.2.2.2)
    refine lv_aload_n hx hb dL_law_237 rfl (lv_at hl 4 rfl) ?_
    have sp := cu_sp.pre (w := (cu_mw C o r q 0 (nI N) mn (va_up M v1.toNatClampNeg (upd (upd (upd (M v1.toNatClampNeg) 9 v2) 10 v3) 11 v4)))) (w' := (cu_mw C o r q 0 (nI N) mn (va_up M v1.toNatClampNeg (upd (upd (upd (M v1.toNatClampNeg) 9 v2) 10 v3) 11 v4)))) (Y := (cu_cw C a (nI N) mn (va_up K v1.toNatClampNeg (upd (upd (upd (K v1.toNatClampNeg) 9 v2) 10 v3) 11 v4)) P ++ cu_ou C out (vp_updL f 0 ((k_adv (upd (upd (upd (K v1.toNatClampNeg) 9 v2) 10 v3) 11 v4))).toInt64))) rfl
    refine cu_callI (va_runV (As := []) (rest := []) ⟨hx, hb, hml, hown, hts⟩ ((m_X2_thrown l D C o r q 0 N J.1 mn (va_up M v1.toNatClampNeg (upd (upd (upd (M v1.toNatClampNeg) 9 v2) 10 v3) 11 v4))) H.size) (cwV 0 hts gL_law_X2_thrown rfl rfl rfl (by decide +kernel) ⟨Nat.le_of_ble_eq_true rfl, Nat.le_of_ble_eq_true rfl⟩) (cu_preV (ci := 2) sp hG hP hD rfl rfl) rfl rfl hl.1 rfl (lv_room (Nat.le_of_ble_eq_true rfl)) dL_law_238 ⟨by show cells + 2 + 0 + 0 ≤ 601024; omega, by show slots + 12 + 0 + 0 ≤ 7293034; omega⟩) sp hP hD hS hA (fun H locs hP hD hS => ?_)
    refine lv_iload hx hb dL_law_241 (lv_at hl 1 rfl) ?_
    refine lv_icmp_eq (tgt := 248) hx hb dL_law_243 (by decide) (fun _ => ?_) (fun z => absurd (hc.symm) z)
    refine lv_iload hx hb dL_law_248 (lv_at hl 1 rfl) ?_
    refine lv_if_ne (tgt := 265) hx hb dL_law_250 (by decide) (fun z => absurd hc z) (fun _ => ?_)
    refine lv_aload_n hx hb dL_law_253 rfl (lv_at hl 5 rfl) ?_
    refine lv_iconst (v := 0) hx hb dL_law_254 (by decide) ?_
    refine va_lald (f := (vp_updL f 0 ((k_adv (upd (upd (upd (K v1.toNatClampNeg) 9 v2) 10 v3) 11 v4))).toInt64)) hx hb hK hP 26 2 rfl rfl (vp_in_nI (n := 0) (by decide) (by decide)) dL_law_255 ?_
    refine W.eq (g2 := F0 m 256 ls [.long ((k_adv (upd (upd (upd (K v1.toNatClampNeg) 9 v2) 10 v3) 11 v4))).toInt64]) rfl ?_
    refine lv_iload hx hb dL_law_256 (lv_at hl 0 rfl) ?_
    refine cu_top (x' := (k_adv (upd (upd (upd (K v1.toNatClampNeg) 9 v2) 10 v3) 11 v4))) ((if_pos hc).trans (by rw [I.2.2.1 _ q0.1])) ?_
    refine lv_i2l (v := ((k_adv (upd (upd (upd (K v1.toNatClampNeg) 9 v2) 10 v3) 11 v4))).toInt64) hx hb dL_law_258 rfl ?_
    refine W.lcmp hx hb dL_law_259 ?_
    refine lv_if_eq (tgt := 265) hx hb dL_law_260 (by decide) (fun _ => ?_) (fun z => absurd (lw_cmp _) z)
    refine lv_goto (tgt := 1123) hx hb dL_law_265 (by decide) ?_
    refine W.widen (k := cells + 6) (n := slots + 170) (by omega) (by omega) ?_
    exact kk _ _ _ _ _ _ _ _ _ _ J hP hD hS (lv_sub hl [2, 3, 4, 5, 6] rfl)
  · obtain ⟨E, ho⟩ := k_hc_n (fun z => hc ((k_hc_G hN v1 v2 v3 v4).symm.trans z))
    have hP : va_P D vwCl (lw_w C o r q (k_cG N v1 v2 v3 v4) N mn M a K P out f) H := by
      rw [ho, if_neg hc] at hP
      exact hP
    have hD : va_D A (lw_w C o r q (k_cG N v1 v2 v3 v4) N mn M a K P out f) := by
      rw [ho, if_neg hc] at hD
      exact hD
    refine lv_aload_n hx hb dL_law_237 rfl (lv_at hl 4 rfl) ?_
    have sp := cu_sp.pre (w := (cu_mw C o r q (k_cG N v1 v2 v3 v4) (nI N) mn M)) (w' := (cu_mw C o r q (k_cG N v1 v2 v3 v4) (nI N) mn M)) (Y := (cu_cw C a (nI N) mn K P ++ cu_ou C out f)) rfl
    refine cu_callI (va_runV (As := []) (rest := []) ⟨hx, hb, hml, hown, hts⟩ ((m_X2_thrown l D C o r q (k_cG N v1 v2 v3 v4) N hN mn M) H.size) (cwV 0 hts gL_law_X2_thrown rfl rfl rfl (by decide +kernel) ⟨Nat.le_of_ble_eq_true rfl, Nat.le_of_ble_eq_true rfl⟩) (cu_preV (ci := 2) sp hG hP hD rfl rfl) rfl rfl hl.1 rfl (lv_room (Nat.le_of_ble_eq_true rfl)) dL_law_238 ⟨by show cells + 2 + 0 + 0 ≤ 601024; omega, by show slots + 12 + 0 + 0 ≤ 7293034; omega⟩) sp hP hD hS hA (fun H locs hP hD hS => ?_)
    refine lv_iload hx hb dL_law_241 (lv_at hl 1 rfl) ?_
    refine lv_icmp_eq (tgt := 248) hx hb dL_law_243 (by decide) (fun _ => ?_) (fun z => absurd (rfl) z)
    refine lv_iload hx hb dL_law_248 (lv_at hl 1 rfl) ?_
    refine lv_if_ne (tgt := 265) hx hb dL_law_250 (by decide) (fun _ => ?_) (fun z => absurd z hc)
    refine lv_goto (tgt := 1123) hx hb dL_law_265 (by decide) ?_
    refine W.widen (k := cells + 6) (n := slots + 170) (by omega) (by omega) ?_
    exact kk _ _ _ _ _ _ _ _ _ _ I.next hP hD hS (lv_sub hl [2, 3, 4, 5, 6] rfl)

set_option maxHeartbeats 4000000 in
set_option maxRecDepth 100000 in
theorem lw_op_set {p : Program} {l : Launch} {e : Env} {s : State} {m : MethodId} {args : Array Value} {below : List Frame} {meth : Method} {c : Code} {A : Nat → Prop} {Z : State → Prop} {H0 H : Heap} {locs : List Loc} {ls : Array Slot} {D : va_G} {C : Nat → ClassId} {sb L o r q out i b N cells slots : Nat} {xs : Nat → Int32} {a : Nat → Nat} {f : Nat → Int64} {mn th : Int32} {K P M : Nat → Nat → Int32}
    (X : lw_cx p l s m args c A H0 D C sb L xs) (I : k_iv N mn K M b) (hb9 : b < 512) (hi : i + 5 ≤ L) (hL : L ≤ 2560) (hP : va_P D vwCl (lw_w C o r q th N mn M a K P out f) H) (hD : va_D A (lw_w C o r q th N mn M a K P out f)) (hS : va_S A H0 H locs) (hl : lv_has ls 9 [(0, .ref sb), (1, .ref (a 0)), (2, .ref o), (3, .ref out), (4, .int (nI i))]) (hc9 : cells + 10 ≤ 601024) (hs9 : slots + 200 ≤ 7293034)
    (kk : ∀ (N1 : Nat) (mn1 th1 : Int32) (K1 P1 M1 : Nat → Nat → Int32) (f1 : Nat → Int64) (H : Heap) (locs : List Loc) (ls : Array Slot), k_iv N1 mn1 K1 M1 (b + 1) → va_P D vwCl (lw_w C o r q th1 N1 mn1 M1 a K1 P1 out f1) H → va_D A (lw_w C o r q th1 N1 mn1 M1 a K1 P1 out f1) → va_S A H0 H locs → lv_has ls 9 [(0, .ref sb), (1, .ref (a 0)), (2, .ref o), (3, .ref out), (4, .int (nI i))] → W p l e room_1 s m args below meth c H locs (cells + 6) (slots + 170) Z (F0 m 1123 ls [])) : W p l e room_1 s m args below meth c H locs cells slots Z (F0 m 268 ls []) := by
  obtain ⟨hx, hb, hml, hts, hown, hG, hT, hX, hsb, hsA, hA, hlf⟩ := X
  have hK := hG.1
  have hN := I.1
  refine lv_aload_n hx hb dL_law_268 rfl (lv_at hl 1 rfl) ?_
  refine lv_aload_n hx hb dL_law_269 rfl (lv_at hl 0 rfl) ?_
  refine lv_iload hx hb dL_law_270 (lv_at hl 4 rfl) ?_
  refine lv_iconst (v := 1) hx hb dL_law_272 (by decide) ?_
  refine lv_iadd hx hb dL_law_273 ?_
  refine cu_top (x' := nI (i + 1)) (lw_ik i 1) ?_
  refine va_sld hx hb hX hsb hsA hS (lw_ix hi hL (by decide)) dL_law_274 ?_
  refine lv_topi (fun v1 ev1 => ?_)
  refine lv_aload_n hx hb dL_law_275 rfl (lv_at hl 0 rfl) ?_
  refine lv_iload hx hb dL_law_276 (lv_at hl 4 rfl) ?_
  refine lv_iconst (v := 2) hx hb dL_law_278 (by decide) ?_
  refine lv_iadd hx hb dL_law_279 ?_
  refine cu_top (x' := nI (i + 2)) (lw_ik i 2) ?_
  refine va_sld hx hb hX hsb hsA hS (lw_ix hi hL (by decide)) dL_law_280 ?_
  refine lv_topi (fun v2 ev2 => ?_)
  refine lv_aload_n hx hb dL_law_281 rfl (lv_at hl 3 rfl) ?_
  have sp := cu_sp.suf (X := (cu_mw C o r q th (nI N) mn M)) (w := (cu_cw C a (nI N) mn K P) ++ cu_ou C out f) (w' := (k_sel ((k_oC N v1).or (k_oT v2)) ((cu_cw C a (nI N) mn (va_up K v1.toNatClampNeg (upd (upd (K v1.toNatClampNeg) 0 v2) 1 0)) P) ++ cu_ou C out (vp_updL f 0 ((k_off (K v1.toNatClampNeg) mn)).toInt64)) ((cu_cw C a (nI N) mn K P) ++ cu_ou C out f))) (k_sel_fst (by rw [List.map_append, List.map_append, cu_cw_fst]; rfl) rfl)
  refine cu_callI (vx_runSW (As := [.ref (a 0), .int v1, .int v2, .ref out]) (rest := []) ⟨hx, hb, hml, hown, hts⟩ ((m_L_set l hlf D C a N hN mn K P v1 v2 out f) H.size) (vx_cwSW 4 hts gL_law_L_set rfl rfl rfl (by decide +kernel) ⟨Nat.le_of_ble_eq_true rfl, Nat.le_of_ble_eq_true rfl⟩) (cu_preXS sp hG hP hD hT hS hA) rfl rfl hl.1 rfl (lv_room (Nat.le_of_ble_eq_true rfl)) dL_law_282 ⟨by show cells + 2 ≤ 601024; omega, by show slots + 12 ≤ 7293034; omega⟩) sp hP hD hS hA (fun H locs hP hD hS => ?_)
  refine cu_top (x' := k_cT N v1 v2) (k_hc_T hN v1 v2) ?_
  refine lv_istore (lv' := [(5, .int (k_cT N v1 v2)), (0, .ref sb), (1, .ref (a 0)), (2, .ref o), (3, .ref out), (4, .int (nI i))]) hx hb dL_law_285 hl (by decide) rfl (fun ls hl => ?_)
  refine lv_aload_n hx hb dL_law_287 rfl (lv_at hl 3 rfl) ?_
  refine lv_aload_n hx hb dL_law_288 rfl (lv_at hl 1 rfl) ?_
  refine lv_iload hx hb dL_law_289 (lv_at hl 5 rfl) ?_
  refine lv_iconst (v := 1) hx hb dL_law_291 (by decide) ?_
  refine lv_iadd hx hb dL_law_292 ?_
  refine cu_top (x' := nI (i + 1)) (lw_ik i 1) ?_
  refine va_sld hx hb hX hsb hsA hS (lw_ix hi hL (by decide)) dL_law_293 ?_
  refine cu_top (x' := v1) ev1.symm ?_
  refine lv_aload_n hx hb dL_law_294 rfl (lv_at hl 1 rfl) ?_
  refine lv_iload hx hb dL_law_295 (lv_at hl 5 rfl) ?_
  refine lv_iconst (v := 2) hx hb dL_law_297 (by decide) ?_
  refine lv_iadd hx hb dL_law_298 ?_
  refine cu_top (x' := nI (i + 2)) (lw_ik i 2) ?_
  refine va_sld hx hb hX hsb hsA hS (lw_ix hi hL (by decide)) dL_law_299 ?_
  refine cu_top (x' := v2) ev2.symm ?_
  have sp := cu_sp.pre (w := (cu_mw C o r q th (nI N) mn M)) (w' := (cu_mw C o r q (k_cT N v1 v2) (nI N) mn (if k_cT N v1 v2 = 0 then (va_up M v1.toNatClampNeg (upd (upd (M v1.toNatClampNeg) 0 v2) 1 0)) else M))) (Y := (k_sel ((k_oC N v1).or (k_oT v2)) ((cu_cw C a (nI N) mn (va_up K v1.toNatClampNeg (upd (upd (K v1.toNatClampNeg) 0 v2) 1 0)) P) ++ cu_ou C out (vp_updL f 0 ((k_off (K v1.toNatClampNeg) mn)).toInt64)) ((cu_cw C a (nI N) mn K P) ++ cu_ou C out f))) cu_mw_fst
  refine cu_callI (va_runV (As := [.int v1, .int v2]) (rest := []) ⟨hx, hb, hml, hown, hts⟩ ((m_X2_set l D C o r q th N hN mn M v1 v2 I.okM I.2.2.2.2.1) H.size) (cwV 2 hts gL_law_X2_set rfl rfl rfl (by decide +kernel) ⟨Nat.le_of_ble_eq_true rfl, Nat.le_of_ble_eq_true rfl⟩) (cu_preV (ci := 2) sp hG hP hD rfl rfl) rfl rfl hl.1 rfl (lv_room (Nat.le_of_ble_eq_true rfl)) dL_law_300 ⟨by show cells + 2 + 0 ≤ 601024; omega, by show slots + 12 + 0 ≤ 7293034; omega⟩) sp hP hD hS hA (fun H locs hP hD hS => ?_)
  refine lv_istore (lv' := [(6, .int (if k_cT N v1 v2 = 0 then (k_off (M v1.toNatClampNeg) mn) else 0)), (5, .int (k_cT N v1 v2)), (0, .ref sb), (1, .ref (a 0)), (2, .ref o), (3, .ref out), (4, .int (nI i))]) hx hb dL_law_303 hl (by decide) rfl (fun ls hl => ?_)
  by_cases hc : k_cT N v1 v2 = 0
  · have ho : ((k_oC N v1).or (k_oT v2)) = none := k_hc_0 ((k_hc_T hN v1 v2).trans hc)
    have q0 := k_cT_0 hN hc
    have hP : va_P D vwCl (lw_w C o r q 0 N mn (va_up M v1.toNatClampNeg (upd (upd (M v1.toNatClampNeg) 0 v2) 1 0)) a (va_up K v1.toNatClampNeg (upd (upd (K v1.toNatClampNeg) 0 v2) 1 0)) P out (vp_updL f 0 ((k_off (K v1.toNatClampNeg) mn)).toInt64)) H := by
      rw [ho, if_pos hc, hc] at hP
      exact hP
    have hD : va_D A (lw_w C o r q 0 N mn (va_up M v1.toNatClampNeg (upd (upd (M v1.toNatClampNeg) 0 v2) 1 0)) a (va_up K v1.toNatClampNeg (upd (upd (K v1.toNatClampNeg) 0 v2) 1 0)) P out (vp_updL f 0 ((k_off (K v1.toNatClampNeg) mn)).toInt64)) := by
      rw [ho, if_pos hc, hc] at hD
      exact hD
    have J := I.put (X := (upd (upd (K v1.toNatClampNeg) 0 v2) 1 0)) (Y := (upd (upd (M v1.toNatClampNeg) 0 v2) 1 0)) q0.1 (by rw [I.2.2.1 _ q0.1]) (k_ok_set (I.2.2.2.1 _ q0.1) q0.2)
    refine lv_aload_n hx hb dL_law_305 rfl (lv_at hl 4 rfl) ?_
    have sp := cu_sp.pre (w := (cu_mw C o r q 0 (nI N) mn (va_up M v1.toNatClampNeg (upd (upd (M v1.toNatClampNeg) 0 v2) 1 0)))) (w' := (cu_mw C o r q 0 (nI N) mn (va_up M v1.toNatClampNeg (upd (upd (M v1.toNatClampNeg) 0 v2) 1 0)))) (Y := (cu_cw C a (nI N) mn (va_up K v1.toNatClampNeg (upd (upd (K v1.toNatClampNeg) 0 v2) 1 0)) P ++ cu_ou C out (vp_updL f 0 ((k_off (K v1.toNatClampNeg) mn)).toInt64))) rfl
    refine cu_callI (va_runV (As := []) (rest := []) ⟨hx, hb, hml, hown, hts⟩ ((m_X2_thrown l D C o r q 0 N J.1 mn (va_up M v1.toNatClampNeg (upd (upd (M v1.toNatClampNeg) 0 v2) 1 0))) H.size) (cwV 0 hts gL_law_X2_thrown rfl rfl rfl (by decide +kernel) ⟨Nat.le_of_ble_eq_true rfl, Nat.le_of_ble_eq_true rfl⟩) (cu_preV (ci := 2) sp hG hP hD rfl rfl) rfl rfl hl.1 rfl (lv_room (Nat.le_of_ble_eq_true rfl)) dL_law_306 ⟨by show cells + 2 + 0 + 0 ≤ 601024; omega, by show slots + 12 + 0 + 0 ≤ 7293034; omega⟩) sp hP hD hS hA (fun H locs hP hD hS => ?_)
    refine lv_iload hx hb dL_law_309 (lv_at hl 1 rfl) ?_
    refine lv_icmp_eq (tgt := 316) hx hb dL_law_311 (by decide) (fun _ => ?_) (fun z => absurd (hc.symm) z)
    refine lv_iload hx hb dL_law_316 (lv_at hl 1 rfl) ?_
    refine lv_if_ne (tgt := 333) hx hb dL_law_318 (by decide) (fun z => absurd hc z) (fun _ => ?_)
    refine lv_aload_n hx hb dL_law_321 rfl (lv_at hl 5 rfl) ?_
    refine lv_iconst (v := 0) hx hb dL_law_322 (by decide) ?_
    refine va_lald (f := (vp_updL f 0 ((k_off (K v1.toNatClampNeg) mn)).toInt64)) hx hb hK hP 26 2 rfl rfl (vp_in_nI (n := 0) (by decide) (by decide)) dL_law_323 ?_
    refine W.eq (g2 := F0 m 324 ls [.long ((k_off (K v1.toNatClampNeg) mn)).toInt64]) rfl ?_
    refine lv_iload hx hb dL_law_324 (lv_at hl 0 rfl) ?_
    refine cu_top (x' := (k_off (K v1.toNatClampNeg) mn)) ((if_pos hc).trans (by rw [I.2.2.1 _ q0.1])) ?_
    refine lv_i2l (v := ((k_off (K v1.toNatClampNeg) mn)).toInt64) hx hb dL_law_326 rfl ?_
    refine W.lcmp hx hb dL_law_327 ?_
    refine lv_if_eq (tgt := 333) hx hb dL_law_328 (by decide) (fun _ => ?_) (fun z => absurd (lw_cmp _) z)
    refine lv_goto (tgt := 1123) hx hb dL_law_333 (by decide) ?_
    refine W.widen (k := cells + 6) (n := slots + 170) (by omega) (by omega) ?_
    exact kk _ _ _ _ _ _ _ _ _ _ J hP hD hS (lv_sub hl [2, 3, 4, 5, 6] rfl)
  · obtain ⟨E, ho⟩ := k_hc_n (fun z => hc ((k_hc_T hN v1 v2).symm.trans z))
    have hP : va_P D vwCl (lw_w C o r q (k_cT N v1 v2) N mn M a K P out f) H := by
      rw [ho, if_neg hc] at hP
      exact hP
    have hD : va_D A (lw_w C o r q (k_cT N v1 v2) N mn M a K P out f) := by
      rw [ho, if_neg hc] at hD
      exact hD
    refine lv_aload_n hx hb dL_law_305 rfl (lv_at hl 4 rfl) ?_
    have sp := cu_sp.pre (w := (cu_mw C o r q (k_cT N v1 v2) (nI N) mn M)) (w' := (cu_mw C o r q (k_cT N v1 v2) (nI N) mn M)) (Y := (cu_cw C a (nI N) mn K P ++ cu_ou C out f)) rfl
    refine cu_callI (va_runV (As := []) (rest := []) ⟨hx, hb, hml, hown, hts⟩ ((m_X2_thrown l D C o r q (k_cT N v1 v2) N hN mn M) H.size) (cwV 0 hts gL_law_X2_thrown rfl rfl rfl (by decide +kernel) ⟨Nat.le_of_ble_eq_true rfl, Nat.le_of_ble_eq_true rfl⟩) (cu_preV (ci := 2) sp hG hP hD rfl rfl) rfl rfl hl.1 rfl (lv_room (Nat.le_of_ble_eq_true rfl)) dL_law_306 ⟨by show cells + 2 + 0 + 0 ≤ 601024; omega, by show slots + 12 + 0 + 0 ≤ 7293034; omega⟩) sp hP hD hS hA (fun H locs hP hD hS => ?_)
    refine lv_iload hx hb dL_law_309 (lv_at hl 1 rfl) ?_
    refine lv_icmp_eq (tgt := 316) hx hb dL_law_311 (by decide) (fun _ => ?_) (fun z => absurd (rfl) z)
    refine lv_iload hx hb dL_law_316 (lv_at hl 1 rfl) ?_
    refine lv_if_ne (tgt := 333) hx hb dL_law_318 (by decide) (fun _ => ?_) (fun z => absurd z hc)
    refine lv_goto (tgt := 1123) hx hb dL_law_333 (by decide) ?_
    refine W.widen (k := cells + 6) (n := slots + 170) (by omega) (by omega) ?_
    exact kk _ _ _ _ _ _ _ _ _ _ I.next hP hD hS (lv_sub hl [2, 3, 4, 5, 6] rfl)

set_option maxHeartbeats 4000000 in
set_option maxRecDepth 100000 in
theorem lw_op_wind {p : Program} {l : Launch} {e : Env} {s : State} {m : MethodId} {args : Array Value} {below : List Frame} {meth : Method} {c : Code} {A : Nat → Prop} {Z : State → Prop} {H0 H : Heap} {locs : List Loc} {ls : Array Slot} {D : va_G} {C : Nat → ClassId} {sb L o r q out i b N cells slots : Nat} {xs : Nat → Int32} {a : Nat → Nat} {f : Nat → Int64} {mn th : Int32} {K P M : Nat → Nat → Int32}
    (X : lw_cx p l s m args c A H0 D C sb L xs) (I : k_iv N mn K M b) (hb9 : b < 512) (hi : i + 5 ≤ L) (hL : L ≤ 2560) (hP : va_P D vwCl (lw_w C o r q th N mn M a K P out f) H) (hD : va_D A (lw_w C o r q th N mn M a K P out f)) (hS : va_S A H0 H locs) (hl : lv_has ls 9 [(0, .ref sb), (1, .ref (a 0)), (2, .ref o), (3, .ref out), (4, .int (nI i))]) (hc9 : cells + 10 ≤ 601024) (hs9 : slots + 200 ≤ 7293034)
    (kk : ∀ (N1 : Nat) (mn1 th1 : Int32) (K1 P1 M1 : Nat → Nat → Int32) (f1 : Nat → Int64) (H : Heap) (locs : List Loc) (ls : Array Slot), k_iv N1 mn1 K1 M1 (b + 1) → va_P D vwCl (lw_w C o r q th1 N1 mn1 M1 a K1 P1 out f1) H → va_D A (lw_w C o r q th1 N1 mn1 M1 a K1 P1 out f1) → va_S A H0 H locs → lv_has ls 9 [(0, .ref sb), (1, .ref (a 0)), (2, .ref o), (3, .ref out), (4, .int (nI i))] → W p l e room_1 s m args below meth c H locs (cells + 6) (slots + 170) Z (F0 m 1123 ls [])) : W p l e room_1 s m args below meth c H locs cells slots Z (F0 m 336 ls []) := by
  obtain ⟨hx, hb, hml, hts, hown, hG, hT, hX, hsb, hsA, hA, hlf⟩ := X
  have hK := hG.1
  have hN := I.1
  refine lv_aload_n hx hb dL_law_336 rfl (lv_at hl 1 rfl) ?_
  refine lv_aload_n hx hb dL_law_337 rfl (lv_at hl 0 rfl) ?_
  refine lv_iload hx hb dL_law_338 (lv_at hl 4 rfl) ?_
  refine lv_iconst (v := 1) hx hb dL_law_340 (by decide) ?_
  refine lv_iadd hx hb dL_law_341 ?_
  refine cu_top (x' := nI (i + 1)) (lw_ik i 1) ?_
  refine va_sld hx hb hX hsb hsA hS (lw_ix hi hL (by decide)) dL_law_342 ?_
  refine lv_topi (fun v1 ev1 => ?_)
  refine lv_aload_n hx hb dL_law_343 rfl (lv_at hl 3 rfl) ?_
  have sp := cu_sp.suf (X := (cu_mw C o r q th (nI N) mn M)) (w := (cu_cw C a (nI N) mn K P) ++ cu_ou C out f) (w' := (k_sel (k_oC N v1) ((cu_cw C a (nI N) mn (va_up K v1.toNatClampNeg (upd (upd (K v1.toNatClampNeg) 2 600) 5 1)) P) ++ cu_ou C out (vp_updL f 0 ((600 - K v1.toNatClampNeg 2)).toInt64)) ((cu_cw C a (nI N) mn K P) ++ cu_ou C out f))) (k_sel_fst (by rw [List.map_append, List.map_append, cu_cw_fst]; rfl) rfl)
  refine cu_callI (vx_runSW (As := [.ref (a 0), .int v1, .ref out]) (rest := []) ⟨hx, hb, hml, hown, hts⟩ ((m_L_wind l hlf D C a N hN mn K P v1 out f) H.size) (vx_cwSW 3 hts gL_law_L_wind rfl rfl rfl (by decide +kernel) ⟨Nat.le_of_ble_eq_true rfl, Nat.le_of_ble_eq_true rfl⟩) (cu_preXS sp hG hP hD hT hS hA) rfl rfl hl.1 rfl (lv_room (Nat.le_of_ble_eq_true rfl)) dL_law_344 ⟨by show cells + 1 ≤ 601024; omega, by show slots + 6 ≤ 7293034; omega⟩) sp hP hD hS hA (fun H locs hP hD hS => ?_)
  refine cu_top (x' := k_c1 N v1) (k_hc_c hN v1) ?_
  refine lv_istore (lv' := [(5, .int (k_c1 N v1)), (0, .ref sb), (1, .ref (a 0)), (2, .ref o), (3, .ref out), (4, .int (nI i))]) hx hb dL_law_347 hl (by decide) rfl (fun ls hl => ?_)
  refine lv_aload_n hx hb dL_law_349 rfl (lv_at hl 3 rfl) ?_
  refine lv_aload_n hx hb dL_law_350 rfl (lv_at hl 1 rfl) ?_
  refine lv_iload hx hb dL_law_351 (lv_at hl 5 rfl) ?_
  refine lv_iconst (v := 1) hx hb dL_law_353 (by decide) ?_
  refine lv_iadd hx hb dL_law_354 ?_
  refine cu_top (x' := nI (i + 1)) (lw_ik i 1) ?_
  refine va_sld hx hb hX hsb hsA hS (lw_ix hi hL (by decide)) dL_law_355 ?_
  refine cu_top (x' := v1) ev1.symm ?_
  have sp := cu_sp.pre (w := (cu_mw C o r q th (nI N) mn M)) (w' := (cu_mw C o r q (k_c1 N v1) (nI N) mn (if k_c1 N v1 = 0 then (va_up M v1.toNatClampNeg (upd (upd (M v1.toNatClampNeg) 2 600) 5 1)) else M))) (Y := (k_sel (k_oC N v1) ((cu_cw C a (nI N) mn (va_up K v1.toNatClampNeg (upd (upd (K v1.toNatClampNeg) 2 600) 5 1)) P) ++ cu_ou C out (vp_updL f 0 ((600 - K v1.toNatClampNeg 2)).toInt64)) ((cu_cw C a (nI N) mn K P) ++ cu_ou C out f))) cu_mw_fst
  refine cu_callI (va_runV (As := [.int v1]) (rest := []) ⟨hx, hb, hml, hown, hts⟩ ((m_X2_wind l D C o r q th N hN mn M v1) H.size) (cwV 1 hts gL_law_X2_wind rfl rfl rfl (by decide +kernel) ⟨Nat.le_of_ble_eq_true rfl, Nat.le_of_ble_eq_true rfl⟩) (cu_preV (ci := 2) sp hG hP hD rfl rfl) rfl rfl hl.1 rfl (lv_room (Nat.le_of_ble_eq_true rfl)) dL_law_356 ⟨by show cells + 1 + 0 ≤ 601024; omega, by show slots + 6 + 0 ≤ 7293034; omega⟩) sp hP hD hS hA (fun H locs hP hD hS => ?_)
  refine lv_istore (lv' := [(6, .int (if k_c1 N v1 = 0 then (600 - M v1.toNatClampNeg 2) else 0)), (5, .int (k_c1 N v1)), (0, .ref sb), (1, .ref (a 0)), (2, .ref o), (3, .ref out), (4, .int (nI i))]) hx hb dL_law_359 hl (by decide) rfl (fun ls hl => ?_)
  by_cases hc : k_c1 N v1 = 0
  · have ho : (k_oC N v1) = none := k_hc_0 ((k_hc_c hN v1).trans hc)
    have q0 := k_c1_0 hN hc
    have hP : va_P D vwCl (lw_w C o r q 0 N mn (va_up M v1.toNatClampNeg (upd (upd (M v1.toNatClampNeg) 2 600) 5 1)) a (va_up K v1.toNatClampNeg (upd (upd (K v1.toNatClampNeg) 2 600) 5 1)) P out (vp_updL f 0 ((600 - K v1.toNatClampNeg 2)).toInt64)) H := by
      rw [ho, if_pos hc, hc] at hP
      exact hP
    have hD : va_D A (lw_w C o r q 0 N mn (va_up M v1.toNatClampNeg (upd (upd (M v1.toNatClampNeg) 2 600) 5 1)) a (va_up K v1.toNatClampNeg (upd (upd (K v1.toNatClampNeg) 2 600) 5 1)) P out (vp_updL f 0 ((600 - K v1.toNatClampNeg 2)).toInt64)) := by
      rw [ho, if_pos hc, hc] at hD
      exact hD
    have J := I.put (X := (upd (upd (K v1.toNatClampNeg) 2 600) 5 1)) (Y := (upd (upd (M v1.toNatClampNeg) 2 600) 5 1)) q0 (by rw [I.2.2.1 _ q0]) (k_ok_wind (I.2.2.2.1 _ q0))
    refine lv_aload_n hx hb dL_law_361 rfl (lv_at hl 4 rfl) ?_
    have sp := cu_sp.pre (w := (cu_mw C o r q 0 (nI N) mn (va_up M v1.toNatClampNeg (upd (upd (M v1.toNatClampNeg) 2 600) 5 1)))) (w' := (cu_mw C o r q 0 (nI N) mn (va_up M v1.toNatClampNeg (upd (upd (M v1.toNatClampNeg) 2 600) 5 1)))) (Y := (cu_cw C a (nI N) mn (va_up K v1.toNatClampNeg (upd (upd (K v1.toNatClampNeg) 2 600) 5 1)) P ++ cu_ou C out (vp_updL f 0 ((600 - K v1.toNatClampNeg 2)).toInt64))) rfl
    refine cu_callI (va_runV (As := []) (rest := []) ⟨hx, hb, hml, hown, hts⟩ ((m_X2_thrown l D C o r q 0 N J.1 mn (va_up M v1.toNatClampNeg (upd (upd (M v1.toNatClampNeg) 2 600) 5 1))) H.size) (cwV 0 hts gL_law_X2_thrown rfl rfl rfl (by decide +kernel) ⟨Nat.le_of_ble_eq_true rfl, Nat.le_of_ble_eq_true rfl⟩) (cu_preV (ci := 2) sp hG hP hD rfl rfl) rfl rfl hl.1 rfl (lv_room (Nat.le_of_ble_eq_true rfl)) dL_law_362 ⟨by show cells + 1 + 0 + 0 ≤ 601024; omega, by show slots + 6 + 0 + 0 ≤ 7293034; omega⟩) sp hP hD hS hA (fun H locs hP hD hS => ?_)
    refine lv_iload hx hb dL_law_365 (lv_at hl 1 rfl) ?_
    refine lv_icmp_eq (tgt := 372) hx hb dL_law_367 (by decide) (fun _ => ?_) (fun z => absurd (hc.symm) z)
    refine lv_iload hx hb dL_law_372 (lv_at hl 1 rfl) ?_
    refine lv_if_ne (tgt := 389) hx hb dL_law_374 (by decide) (fun z => absurd hc z) (fun _ => ?_)
    refine lv_aload_n hx hb dL_law_377 rfl (lv_at hl 5 rfl) ?_
    refine lv_iconst (v := 0) hx hb dL_law_378 (by decide) ?_
    refine va_lald (f := (vp_updL f 0 ((600 - K v1.toNatClampNeg 2)).toInt64)) hx hb hK hP 26 2 rfl rfl (vp_in_nI (n := 0) (by decide) (by decide)) dL_law_379 ?_
    refine W.eq (g2 := F0 m 380 ls [.long ((600 - K v1.toNatClampNeg 2)).toInt64]) rfl ?_
    refine lv_iload hx hb dL_law_380 (lv_at hl 0 rfl) ?_
    refine cu_top (x' := (600 - K v1.toNatClampNeg 2)) ((if_pos hc).trans (by rw [I.2.2.1 _ q0])) ?_
    refine lv_i2l (v := ((600 - K v1.toNatClampNeg 2)).toInt64) hx hb dL_law_382 rfl ?_
    refine W.lcmp hx hb dL_law_383 ?_
    refine lv_if_eq (tgt := 389) hx hb dL_law_384 (by decide) (fun _ => ?_) (fun z => absurd (lw_cmp _) z)
    refine lv_goto (tgt := 1123) hx hb dL_law_389 (by decide) ?_
    refine W.widen (k := cells + 6) (n := slots + 170) (by omega) (by omega) ?_
    exact kk _ _ _ _ _ _ _ _ _ _ J hP hD hS (lv_sub hl [2, 3, 4, 5, 6] rfl)
  · obtain ⟨E, ho⟩ := k_hc_n (fun z => hc ((k_hc_c hN v1).symm.trans z))
    have hP : va_P D vwCl (lw_w C o r q (k_c1 N v1) N mn M a K P out f) H := by
      rw [ho, if_neg hc] at hP
      exact hP
    have hD : va_D A (lw_w C o r q (k_c1 N v1) N mn M a K P out f) := by
      rw [ho, if_neg hc] at hD
      exact hD
    refine lv_aload_n hx hb dL_law_361 rfl (lv_at hl 4 rfl) ?_
    have sp := cu_sp.pre (w := (cu_mw C o r q (k_c1 N v1) (nI N) mn M)) (w' := (cu_mw C o r q (k_c1 N v1) (nI N) mn M)) (Y := (cu_cw C a (nI N) mn K P ++ cu_ou C out f)) rfl
    refine cu_callI (va_runV (As := []) (rest := []) ⟨hx, hb, hml, hown, hts⟩ ((m_X2_thrown l D C o r q (k_c1 N v1) N hN mn M) H.size) (cwV 0 hts gL_law_X2_thrown rfl rfl rfl (by decide +kernel) ⟨Nat.le_of_ble_eq_true rfl, Nat.le_of_ble_eq_true rfl⟩) (cu_preV (ci := 2) sp hG hP hD rfl rfl) rfl rfl hl.1 rfl (lv_room (Nat.le_of_ble_eq_true rfl)) dL_law_362 ⟨by show cells + 1 + 0 + 0 ≤ 601024; omega, by show slots + 6 + 0 + 0 ≤ 7293034; omega⟩) sp hP hD hS hA (fun H locs hP hD hS => ?_)
    refine lv_iload hx hb dL_law_365 (lv_at hl 1 rfl) ?_
    refine lv_icmp_eq (tgt := 372) hx hb dL_law_367 (by decide) (fun _ => ?_) (fun z => absurd (rfl) z)
    refine lv_iload hx hb dL_law_372 (lv_at hl 1 rfl) ?_
    refine lv_if_ne (tgt := 389) hx hb dL_law_374 (by decide) (fun _ => ?_) (fun z => absurd z hc)
    refine lv_goto (tgt := 1123) hx hb dL_law_389 (by decide) ?_
    refine W.widen (k := cells + 6) (n := slots + 170) (by omega) (by omega) ?_
    exact kk _ _ _ _ _ _ _ _ _ _ I.next hP hD hS (lv_sub hl [2, 3, 4, 5, 6] rfl)

set_option maxHeartbeats 4000000 in
set_option maxRecDepth 100000 in
theorem lw_op_mend {p : Program} {l : Launch} {e : Env} {s : State} {m : MethodId} {args : Array Value} {below : List Frame} {meth : Method} {c : Code} {A : Nat → Prop} {Z : State → Prop} {H0 H : Heap} {locs : List Loc} {ls : Array Slot} {D : va_G} {C : Nat → ClassId} {sb L o r q out i b N cells slots : Nat} {xs : Nat → Int32} {a : Nat → Nat} {f : Nat → Int64} {mn th : Int32} {K P M : Nat → Nat → Int32}
    (X : lw_cx p l s m args c A H0 D C sb L xs) (I : k_iv N mn K M b) (hb9 : b < 512) (hi : i + 5 ≤ L) (hL : L ≤ 2560) (hP : va_P D vwCl (lw_w C o r q th N mn M a K P out f) H) (hD : va_D A (lw_w C o r q th N mn M a K P out f)) (hS : va_S A H0 H locs) (hl : lv_has ls 9 [(0, .ref sb), (1, .ref (a 0)), (2, .ref o), (3, .ref out), (4, .int (nI i))]) (hc9 : cells + 10 ≤ 601024) (hs9 : slots + 200 ≤ 7293034)
    (kk : ∀ (N1 : Nat) (mn1 th1 : Int32) (K1 P1 M1 : Nat → Nat → Int32) (f1 : Nat → Int64) (H : Heap) (locs : List Loc) (ls : Array Slot), k_iv N1 mn1 K1 M1 (b + 1) → va_P D vwCl (lw_w C o r q th1 N1 mn1 M1 a K1 P1 out f1) H → va_D A (lw_w C o r q th1 N1 mn1 M1 a K1 P1 out f1) → va_S A H0 H locs → lv_has ls 9 [(0, .ref sb), (1, .ref (a 0)), (2, .ref o), (3, .ref out), (4, .int (nI i))] → W p l e room_1 s m args below meth c H locs (cells + 6) (slots + 170) Z (F0 m 1123 ls [])) : W p l e room_1 s m args below meth c H locs cells slots Z (F0 m 392 ls []) := by
  obtain ⟨hx, hb, hml, hts, hown, hG, hT, hX, hsb, hsA, hA, hlf⟩ := X
  have hK := hG.1
  have hN := I.1
  refine lv_aload_n hx hb dL_law_392 rfl (lv_at hl 1 rfl) ?_
  refine lv_aload_n hx hb dL_law_393 rfl (lv_at hl 0 rfl) ?_
  refine lv_iload hx hb dL_law_394 (lv_at hl 4 rfl) ?_
  refine lv_iconst (v := 1) hx hb dL_law_396 (by decide) ?_
  refine lv_iadd hx hb dL_law_397 ?_
  refine cu_top (x' := nI (i + 1)) (lw_ik i 1) ?_
  refine va_sld hx hb hX hsb hsA hS (lw_ix hi hL (by decide)) dL_law_398 ?_
  refine lv_topi (fun v1 ev1 => ?_)
  refine lv_aload_n hx hb dL_law_399 rfl (lv_at hl 0 rfl) ?_
  refine lv_iload hx hb dL_law_400 (lv_at hl 4 rfl) ?_
  refine lv_iconst (v := 2) hx hb dL_law_402 (by decide) ?_
  refine lv_iadd hx hb dL_law_403 ?_
  refine cu_top (x' := nI (i + 2)) (lw_ik i 2) ?_
  refine va_sld hx hb hX hsb hsA hS (lw_ix hi hL (by decide)) dL_law_404 ?_
  refine lv_topi (fun v2 ev2 => ?_)
  refine lv_aload_n hx hb dL_law_405 rfl (lv_at hl 3 rfl) ?_
  have sp := cu_sp.suf (X := (cu_mw C o r q th (nI N) mn M)) (w := (cu_cw C a (nI N) mn K P) ++ cu_ou C out f) (w' := (k_sel ((k_oC N v1).or (k_oE v2)) ((cu_cw C a (nI N) mn (va_up K v1.toNatClampNeg (k_mendK (K v1.toNatClampNeg) v2)) P) ++ cu_ou C out (vp_updL f 0 ((k_mendV (K v1.toNatClampNeg) v2)).toInt64)) ((cu_cw C a (nI N) mn K P) ++ cu_ou C out f))) (k_sel_fst (by rw [List.map_append, List.map_append, cu_cw_fst]; rfl) rfl)
  refine cu_callI (vx_runSW (As := [.ref (a 0), .int v1, .int v2, .ref out]) (rest := []) ⟨hx, hb, hml, hown, hts⟩ ((m_L_mend l hlf D C a N hN mn K P v1 v2 out f) H.size) (vx_cwSW 4 hts gL_law_L_mend rfl rfl rfl (by decide +kernel) ⟨Nat.le_of_ble_eq_true rfl, Nat.le_of_ble_eq_true rfl⟩) (cu_preXS sp hG hP hD hT hS hA) rfl rfl hl.1 rfl (lv_room (Nat.le_of_ble_eq_true rfl)) dL_law_406 ⟨by show cells + 2 ≤ 601024; omega, by show slots + 12 ≤ 7293034; omega⟩) sp hP hD hS hA (fun H locs hP hD hS => ?_)
  refine cu_top (x' := k_cE N v1 v2) (k_hc_E hN v1 v2) ?_
  refine lv_istore (lv' := [(5, .int (k_cE N v1 v2)), (0, .ref sb), (1, .ref (a 0)), (2, .ref o), (3, .ref out), (4, .int (nI i))]) hx hb dL_law_409 hl (by decide) rfl (fun ls hl => ?_)
  refine lv_aload_n hx hb dL_law_411 rfl (lv_at hl 3 rfl) ?_
  refine lv_aload_n hx hb dL_law_412 rfl (lv_at hl 1 rfl) ?_
  refine lv_iload hx hb dL_law_413 (lv_at hl 5 rfl) ?_
  refine lv_iconst (v := 1) hx hb dL_law_415 (by decide) ?_
  refine lv_iadd hx hb dL_law_416 ?_
  refine cu_top (x' := nI (i + 1)) (lw_ik i 1) ?_
  refine va_sld hx hb hX hsb hsA hS (lw_ix hi hL (by decide)) dL_law_417 ?_
  refine cu_top (x' := v1) ev1.symm ?_
  refine lv_aload_n hx hb dL_law_418 rfl (lv_at hl 1 rfl) ?_
  refine lv_iload hx hb dL_law_419 (lv_at hl 5 rfl) ?_
  refine lv_iconst (v := 2) hx hb dL_law_421 (by decide) ?_
  refine lv_iadd hx hb dL_law_422 ?_
  refine cu_top (x' := nI (i + 2)) (lw_ik i 2) ?_
  refine va_sld hx hb hX hsb hsA hS (lw_ix hi hL (by decide)) dL_law_423 ?_
  refine cu_top (x' := v2) ev2.symm ?_
  have sp := cu_sp.pre (w := (cu_mw C o r q th (nI N) mn M)) (w' := (cu_mw C o r q (k_cE N v1 v2) (nI N) mn (if k_cE N v1 v2 = 0 then (va_up M v1.toNatClampNeg (k_mendK (M v1.toNatClampNeg) v2)) else M))) (Y := (k_sel ((k_oC N v1).or (k_oE v2)) ((cu_cw C a (nI N) mn (va_up K v1.toNatClampNeg (k_mendK (K v1.toNatClampNeg) v2)) P) ++ cu_ou C out (vp_updL f 0 ((k_mendV (K v1.toNatClampNeg) v2)).toInt64)) ((cu_cw C a (nI N) mn K P) ++ cu_ou C out f))) cu_mw_fst
  refine cu_callI (va_runV (As := [.int v1, .int v2]) (rest := []) ⟨hx, hb, hml, hown, hts⟩ ((m_X2_mend l D C o r q th N hN mn M v1 v2 I.okM) H.size) (cwV 2 hts gL_law_X2_mend rfl rfl rfl (by decide +kernel) ⟨Nat.le_of_ble_eq_true rfl, Nat.le_of_ble_eq_true rfl⟩) (cu_preV (ci := 2) sp hG hP hD rfl rfl) rfl rfl hl.1 rfl (lv_room (Nat.le_of_ble_eq_true rfl)) dL_law_424 ⟨by show cells + 2 + 0 ≤ 601024; omega, by show slots + 12 + 0 ≤ 7293034; omega⟩) sp hP hD hS hA (fun H locs hP hD hS => ?_)
  refine lv_istore (lv' := [(6, .int (if k_cE N v1 v2 = 0 then (k_mendV (M v1.toNatClampNeg) v2) else 0)), (5, .int (k_cE N v1 v2)), (0, .ref sb), (1, .ref (a 0)), (2, .ref o), (3, .ref out), (4, .int (nI i))]) hx hb dL_law_427 hl (by decide) rfl (fun ls hl => ?_)
  by_cases hc : k_cE N v1 v2 = 0
  · have ho : ((k_oC N v1).or (k_oE v2)) = none := k_hc_0 ((k_hc_E hN v1 v2).trans hc)
    have q0 := k_cE_0 hN hc
    have hP : va_P D vwCl (lw_w C o r q 0 N mn (va_up M v1.toNatClampNeg (k_mendK (M v1.toNatClampNeg) v2)) a (va_up K v1.toNatClampNeg (k_mendK (K v1.toNatClampNeg) v2)) P out (vp_updL f 0 ((k_mendV (K v1.toNatClampNeg) v2)).toInt64)) H := by
      rw [ho, if_pos hc, hc] at hP
      exact hP
    have hD : va_D A (lw_w C o r q 0 N mn (va_up M v1.toNatClampNeg (k_mendK (M v1.toNatClampNeg) v2)) a (va_up K v1.toNatClampNeg (k_mendK (K v1.toNatClampNeg) v2)) P out (vp_updL f 0 ((k_mendV (K v1.toNatClampNeg) v2)).toInt64)) := by
      rw [ho, if_pos hc, hc] at hD
      exact hD
    have J := I.put (X := (k_mendK (K v1.toNatClampNeg) v2)) (Y := (k_mendK (M v1.toNatClampNeg) v2)) q0 (by rw [I.2.2.1 _ q0]) (k_ok_mend v2 (I.2.2.2.1 _ q0))
    refine lv_aload_n hx hb dL_law_429 rfl (lv_at hl 4 rfl) ?_
    have sp := cu_sp.pre (w := (cu_mw C o r q 0 (nI N) mn (va_up M v1.toNatClampNeg (k_mendK (M v1.toNatClampNeg) v2)))) (w' := (cu_mw C o r q 0 (nI N) mn (va_up M v1.toNatClampNeg (k_mendK (M v1.toNatClampNeg) v2)))) (Y := (cu_cw C a (nI N) mn (va_up K v1.toNatClampNeg (k_mendK (K v1.toNatClampNeg) v2)) P ++ cu_ou C out (vp_updL f 0 ((k_mendV (K v1.toNatClampNeg) v2)).toInt64))) rfl
    refine cu_callI (va_runV (As := []) (rest := []) ⟨hx, hb, hml, hown, hts⟩ ((m_X2_thrown l D C o r q 0 N J.1 mn (va_up M v1.toNatClampNeg (k_mendK (M v1.toNatClampNeg) v2))) H.size) (cwV 0 hts gL_law_X2_thrown rfl rfl rfl (by decide +kernel) ⟨Nat.le_of_ble_eq_true rfl, Nat.le_of_ble_eq_true rfl⟩) (cu_preV (ci := 2) sp hG hP hD rfl rfl) rfl rfl hl.1 rfl (lv_room (Nat.le_of_ble_eq_true rfl)) dL_law_430 ⟨by show cells + 2 + 0 + 0 ≤ 601024; omega, by show slots + 12 + 0 + 0 ≤ 7293034; omega⟩) sp hP hD hS hA (fun H locs hP hD hS => ?_)
    refine lv_iload hx hb dL_law_433 (lv_at hl 1 rfl) ?_
    refine lv_icmp_eq (tgt := 440) hx hb dL_law_435 (by decide) (fun _ => ?_) (fun z => absurd (hc.symm) z)
    refine lv_iload hx hb dL_law_440 (lv_at hl 1 rfl) ?_
    refine lv_if_ne (tgt := 457) hx hb dL_law_442 (by decide) (fun z => absurd hc z) (fun _ => ?_)
    refine lv_aload_n hx hb dL_law_445 rfl (lv_at hl 5 rfl) ?_
    refine lv_iconst (v := 0) hx hb dL_law_446 (by decide) ?_
    refine va_lald (f := (vp_updL f 0 ((k_mendV (K v1.toNatClampNeg) v2)).toInt64)) hx hb hK hP 26 2 rfl rfl (vp_in_nI (n := 0) (by decide) (by decide)) dL_law_447 ?_
    refine W.eq (g2 := F0 m 448 ls [.long ((k_mendV (K v1.toNatClampNeg) v2)).toInt64]) rfl ?_
    refine lv_iload hx hb dL_law_448 (lv_at hl 0 rfl) ?_
    refine cu_top (x' := (k_mendV (K v1.toNatClampNeg) v2)) ((if_pos hc).trans (by rw [I.2.2.1 _ q0])) ?_
    refine lv_i2l (v := ((k_mendV (K v1.toNatClampNeg) v2)).toInt64) hx hb dL_law_450 rfl ?_
    refine W.lcmp hx hb dL_law_451 ?_
    refine lv_if_eq (tgt := 457) hx hb dL_law_452 (by decide) (fun _ => ?_) (fun z => absurd (lw_cmp _) z)
    refine lv_goto (tgt := 1123) hx hb dL_law_457 (by decide) ?_
    refine W.widen (k := cells + 6) (n := slots + 170) (by omega) (by omega) ?_
    exact kk _ _ _ _ _ _ _ _ _ _ J hP hD hS (lv_sub hl [2, 3, 4, 5, 6] rfl)
  · obtain ⟨E, ho⟩ := k_hc_n (fun z => hc ((k_hc_E hN v1 v2).symm.trans z))
    have hP : va_P D vwCl (lw_w C o r q (k_cE N v1 v2) N mn M a K P out f) H := by
      rw [ho, if_neg hc] at hP
      exact hP
    have hD : va_D A (lw_w C o r q (k_cE N v1 v2) N mn M a K P out f) := by
      rw [ho, if_neg hc] at hD
      exact hD
    refine lv_aload_n hx hb dL_law_429 rfl (lv_at hl 4 rfl) ?_
    have sp := cu_sp.pre (w := (cu_mw C o r q (k_cE N v1 v2) (nI N) mn M)) (w' := (cu_mw C o r q (k_cE N v1 v2) (nI N) mn M)) (Y := (cu_cw C a (nI N) mn K P ++ cu_ou C out f)) rfl
    refine cu_callI (va_runV (As := []) (rest := []) ⟨hx, hb, hml, hown, hts⟩ ((m_X2_thrown l D C o r q (k_cE N v1 v2) N hN mn M) H.size) (cwV 0 hts gL_law_X2_thrown rfl rfl rfl (by decide +kernel) ⟨Nat.le_of_ble_eq_true rfl, Nat.le_of_ble_eq_true rfl⟩) (cu_preV (ci := 2) sp hG hP hD rfl rfl) rfl rfl hl.1 rfl (lv_room (Nat.le_of_ble_eq_true rfl)) dL_law_430 ⟨by show cells + 2 + 0 + 0 ≤ 601024; omega, by show slots + 12 + 0 + 0 ≤ 7293034; omega⟩) sp hP hD hS hA (fun H locs hP hD hS => ?_)
    refine lv_iload hx hb dL_law_433 (lv_at hl 1 rfl) ?_
    refine lv_icmp_eq (tgt := 440) hx hb dL_law_435 (by decide) (fun _ => ?_) (fun z => absurd (rfl) z)
    refine lv_iload hx hb dL_law_440 (lv_at hl 1 rfl) ?_
    refine lv_if_ne (tgt := 457) hx hb dL_law_442 (by decide) (fun _ => ?_) (fun z => absurd z hc)
    refine lv_goto (tgt := 1123) hx hb dL_law_457 (by decide) ?_
    refine W.widen (k := cells + 6) (n := slots + 170) (by omega) (by omega) ?_
    exact kk _ _ _ _ _ _ _ _ _ _ I.next hP hD hS (lv_sub hl [2, 3, 4, 5, 6] rfl)

set_option maxHeartbeats 4000000 in
set_option maxRecDepth 100000 in
theorem lw_op_shut {p : Program} {l : Launch} {e : Env} {s : State} {m : MethodId} {args : Array Value} {below : List Frame} {meth : Method} {c : Code} {A : Nat → Prop} {Z : State → Prop} {H0 H : Heap} {locs : List Loc} {ls : Array Slot} {D : va_G} {C : Nat → ClassId} {sb L o r q out i b N cells slots : Nat} {xs : Nat → Int32} {a : Nat → Nat} {f : Nat → Int64} {mn th : Int32} {K P M : Nat → Nat → Int32}
    (X : lw_cx p l s m args c A H0 D C sb L xs) (I : k_iv N mn K M b) (hb9 : b < 512) (hi : i + 5 ≤ L) (hL : L ≤ 2560) (hP : va_P D vwCl (lw_w C o r q th N mn M a K P out f) H) (hD : va_D A (lw_w C o r q th N mn M a K P out f)) (hS : va_S A H0 H locs) (hl : lv_has ls 9 [(0, .ref sb), (1, .ref (a 0)), (2, .ref o), (3, .ref out), (4, .int (nI i))]) (hc9 : cells + 10 ≤ 601024) (hs9 : slots + 200 ≤ 7293034)
    (kk : ∀ (N1 : Nat) (mn1 th1 : Int32) (K1 P1 M1 : Nat → Nat → Int32) (f1 : Nat → Int64) (H : Heap) (locs : List Loc) (ls : Array Slot), k_iv N1 mn1 K1 M1 (b + 1) → va_P D vwCl (lw_w C o r q th1 N1 mn1 M1 a K1 P1 out f1) H → va_D A (lw_w C o r q th1 N1 mn1 M1 a K1 P1 out f1) → va_S A H0 H locs → lv_has ls 9 [(0, .ref sb), (1, .ref (a 0)), (2, .ref o), (3, .ref out), (4, .int (nI i))] → W p l e room_1 s m args below meth c H locs (cells + 6) (slots + 170) Z (F0 m 1123 ls [])) : W p l e room_1 s m args below meth c H locs cells slots Z (F0 m 460 ls []) := by
  obtain ⟨hx, hb, hml, hts, hown, hG, hT, hX, hsb, hsA, hA, hlf⟩ := X
  have hK := hG.1
  have hN := I.1
  refine lv_aload_n hx hb dL_law_460 rfl (lv_at hl 1 rfl) ?_
  refine lv_aload_n hx hb dL_law_461 rfl (lv_at hl 0 rfl) ?_
  refine lv_iload hx hb dL_law_462 (lv_at hl 4 rfl) ?_
  refine lv_iconst (v := 1) hx hb dL_law_464 (by decide) ?_
  refine lv_iadd hx hb dL_law_465 ?_
  refine cu_top (x' := nI (i + 1)) (lw_ik i 1) ?_
  refine va_sld hx hb hX hsb hsA hS (lw_ix hi hL (by decide)) dL_law_466 ?_
  refine lv_topi (fun v1 ev1 => ?_)
  refine lv_aload_n hx hb dL_law_467 rfl (lv_at hl 0 rfl) ?_
  refine lv_iload hx hb dL_law_468 (lv_at hl 4 rfl) ?_
  refine lv_iconst (v := 2) hx hb dL_law_470 (by decide) ?_
  refine lv_iadd hx hb dL_law_471 ?_
  refine cu_top (x' := nI (i + 2)) (lw_ik i 2) ?_
  refine va_sld hx hb hX hsb hsA hS (lw_ix hi hL (by decide)) dL_law_472 ?_
  refine lv_topi (fun v2 ev2 => ?_)
  refine lv_aload_n hx hb dL_law_473 rfl (lv_at hl 0 rfl) ?_
  refine lv_iload hx hb dL_law_474 (lv_at hl 4 rfl) ?_
  refine lv_iconst (v := 3) hx hb dL_law_476 (by decide) ?_
  refine lv_iadd hx hb dL_law_477 ?_
  refine cu_top (x' := nI (i + 3)) (lw_ik i 3) ?_
  refine va_sld hx hb hX hsb hsA hS (lw_ix hi hL (by decide)) dL_law_478 ?_
  refine lv_topi (fun v3 ev3 => ?_)
  refine lv_aload_n hx hb dL_law_479 rfl (lv_at hl 3 rfl) ?_
  have sp := cu_sp.suf (X := (cu_mw C o r q th (nI N) mn M)) (w := (cu_cw C a (nI N) mn K P) ++ cu_ou C out f) (w' := (k_sel ((k_oC N v1).or (k_oS v2 v3)) ((cu_cw C a (nI N) mn (va_up K v1.toNatClampNeg (upd (upd (K v1.toNatClampNeg) 12 v2) 13 v3)) P) ++ cu_ou C out (vp_updL f 0 ((K v1.toNatClampNeg 12)).toInt64)) ((cu_cw C a (nI N) mn K P) ++ cu_ou C out f))) (k_sel_fst (by rw [List.map_append, List.map_append, cu_cw_fst]; rfl) rfl)
  refine cu_callI (vx_runSW (As := [.ref (a 0), .int v1, .int v2, .int v3, .ref out]) (rest := []) ⟨hx, hb, hml, hown, hts⟩ ((m_L_shut l hlf D C a N hN mn K P v1 v2 v3 out f) H.size) (vx_cwSW 5 hts gL_law_L_shut rfl rfl rfl (by decide +kernel) ⟨Nat.le_of_ble_eq_true rfl, Nat.le_of_ble_eq_true rfl⟩) (cu_preXS sp hG hP hD hT hS hA) rfl rfl hl.1 rfl (lv_room (Nat.le_of_ble_eq_true rfl)) dL_law_480 ⟨by show cells + 3 ≤ 601024; omega, by show slots + 18 ≤ 7293034; omega⟩) sp hP hD hS hA (fun H locs hP hD hS => ?_)
  refine cu_top (x' := k_cH N v1 v2 v3) (k_hc_H hN v1 v2 v3) ?_
  refine lv_istore (lv' := [(5, .int (k_cH N v1 v2 v3)), (0, .ref sb), (1, .ref (a 0)), (2, .ref o), (3, .ref out), (4, .int (nI i))]) hx hb dL_law_483 hl (by decide) rfl (fun ls hl => ?_)
  refine lv_aload_n hx hb dL_law_485 rfl (lv_at hl 3 rfl) ?_
  refine lv_aload_n hx hb dL_law_486 rfl (lv_at hl 1 rfl) ?_
  refine lv_iload hx hb dL_law_487 (lv_at hl 5 rfl) ?_
  refine lv_iconst (v := 1) hx hb dL_law_489 (by decide) ?_
  refine lv_iadd hx hb dL_law_490 ?_
  refine cu_top (x' := nI (i + 1)) (lw_ik i 1) ?_
  refine va_sld hx hb hX hsb hsA hS (lw_ix hi hL (by decide)) dL_law_491 ?_
  refine cu_top (x' := v1) ev1.symm ?_
  refine lv_aload_n hx hb dL_law_492 rfl (lv_at hl 1 rfl) ?_
  refine lv_iload hx hb dL_law_493 (lv_at hl 5 rfl) ?_
  refine lv_iconst (v := 2) hx hb dL_law_495 (by decide) ?_
  refine lv_iadd hx hb dL_law_496 ?_
  refine cu_top (x' := nI (i + 2)) (lw_ik i 2) ?_
  refine va_sld hx hb hX hsb hsA hS (lw_ix hi hL (by decide)) dL_law_497 ?_
  refine cu_top (x' := v2) ev2.symm ?_
  refine lv_aload_n hx hb dL_law_498 rfl (lv_at hl 1 rfl) ?_
  refine lv_iload hx hb dL_law_499 (lv_at hl 5 rfl) ?_
  refine lv_iconst (v := 3) hx hb dL_law_501 (by decide) ?_
  refine lv_iadd hx hb dL_law_502 ?_
  refine cu_top (x' := nI (i + 3)) (lw_ik i 3) ?_
  refine va_sld hx hb hX hsb hsA hS (lw_ix hi hL (by decide)) dL_law_503 ?_
  refine cu_top (x' := v3) ev3.symm ?_
  have sp := cu_sp.pre (w := (cu_mw C o r q th (nI N) mn M)) (w' := (cu_mw C o r q (k_cH N v1 v2 v3) (nI N) mn (if k_cH N v1 v2 v3 = 0 then (va_up M v1.toNatClampNeg (upd (upd (M v1.toNatClampNeg) 12 v2) 13 v3)) else M))) (Y := (k_sel ((k_oC N v1).or (k_oS v2 v3)) ((cu_cw C a (nI N) mn (va_up K v1.toNatClampNeg (upd (upd (K v1.toNatClampNeg) 12 v2) 13 v3)) P) ++ cu_ou C out (vp_updL f 0 ((K v1.toNatClampNeg 12)).toInt64)) ((cu_cw C a (nI N) mn K P) ++ cu_ou C out f))) cu_mw_fst
  refine cu_callI (va_runV (As := [.int v1, .int v2, .int v3]) (rest := []) ⟨hx, hb, hml, hown, hts⟩ ((m_X2_shut l D C o r q th N hN mn M v1 v2 v3) H.size) (cwV 3 hts gL_law_X2_shut rfl rfl rfl (by decide +kernel) ⟨Nat.le_of_ble_eq_true rfl, Nat.le_of_ble_eq_true rfl⟩) (cu_preV (ci := 2) sp hG hP hD rfl rfl) rfl rfl hl.1 rfl (lv_room (Nat.le_of_ble_eq_true rfl)) dL_law_504 ⟨by show cells + 3 + 0 ≤ 601024; omega, by show slots + 18 + 0 ≤ 7293034; omega⟩) sp hP hD hS hA (fun H locs hP hD hS => ?_)
  refine lv_istore (lv' := [(6, .int (if k_cH N v1 v2 v3 = 0 then (M v1.toNatClampNeg 12) else 0)), (5, .int (k_cH N v1 v2 v3)), (0, .ref sb), (1, .ref (a 0)), (2, .ref o), (3, .ref out), (4, .int (nI i))]) hx hb dL_law_507 hl (by decide) rfl (fun ls hl => ?_)
  by_cases hc : k_cH N v1 v2 v3 = 0
  · have ho : ((k_oC N v1).or (k_oS v2 v3)) = none := k_hc_0 ((k_hc_H hN v1 v2 v3).trans hc)
    have q0 := k_cH_0 hN hc
    have hP : va_P D vwCl (lw_w C o r q 0 N mn (va_up M v1.toNatClampNeg (upd (upd (M v1.toNatClampNeg) 12 v2) 13 v3)) a (va_up K v1.toNatClampNeg (upd (upd (K v1.toNatClampNeg) 12 v2) 13 v3)) P out (vp_updL f 0 ((K v1.toNatClampNeg 12)).toInt64)) H := by
      rw [ho, if_pos hc, hc] at hP
      exact hP
    have hD : va_D A (lw_w C o r q 0 N mn (va_up M v1.toNatClampNeg (upd (upd (M v1.toNatClampNeg) 12 v2) 13 v3)) a (va_up K v1.toNatClampNeg (upd (upd (K v1.toNatClampNeg) 12 v2) 13 v3)) P out (vp_updL f 0 ((K v1.toNatClampNeg 12)).toInt64)) := by
      rw [ho, if_pos hc, hc] at hD
      exact hD
    have J := I.put (X := (upd (upd (K v1.toNatClampNeg) 12 v2) 13 v3)) (Y := (upd (upd (M v1.toNatClampNeg) 12 v2) 13 v3)) q0.1 (by rw [I.2.2.1 _ q0.1]) (k_ok_shut (I.2.2.2.1 _ q0.1) q0.2.1 q0.2.2)
    refine lv_aload_n hx hb dL_law_509 rfl (lv_at hl 4 rfl) ?_
    have sp := cu_sp.pre (w := (cu_mw C o r q 0 (nI N) mn (va_up M v1.toNatClampNeg (upd (upd (M v1.toNatClampNeg) 12 v2) 13 v3)))) (w' := (cu_mw C o r q 0 (nI N) mn (va_up M v1.toNatClampNeg (upd (upd (M v1.toNatClampNeg) 12 v2) 13 v3)))) (Y := (cu_cw C a (nI N) mn (va_up K v1.toNatClampNeg (upd (upd (K v1.toNatClampNeg) 12 v2) 13 v3)) P ++ cu_ou C out (vp_updL f 0 ((K v1.toNatClampNeg 12)).toInt64))) rfl
    refine cu_callI (va_runV (As := []) (rest := []) ⟨hx, hb, hml, hown, hts⟩ ((m_X2_thrown l D C o r q 0 N J.1 mn (va_up M v1.toNatClampNeg (upd (upd (M v1.toNatClampNeg) 12 v2) 13 v3))) H.size) (cwV 0 hts gL_law_X2_thrown rfl rfl rfl (by decide +kernel) ⟨Nat.le_of_ble_eq_true rfl, Nat.le_of_ble_eq_true rfl⟩) (cu_preV (ci := 2) sp hG hP hD rfl rfl) rfl rfl hl.1 rfl (lv_room (Nat.le_of_ble_eq_true rfl)) dL_law_510 ⟨by show cells + 3 + 0 + 0 ≤ 601024; omega, by show slots + 18 + 0 + 0 ≤ 7293034; omega⟩) sp hP hD hS hA (fun H locs hP hD hS => ?_)
    refine lv_iload hx hb dL_law_513 (lv_at hl 1 rfl) ?_
    refine lv_icmp_eq (tgt := 520) hx hb dL_law_515 (by decide) (fun _ => ?_) (fun z => absurd (hc.symm) z)
    refine lv_iload hx hb dL_law_520 (lv_at hl 1 rfl) ?_
    refine lv_if_ne (tgt := 537) hx hb dL_law_522 (by decide) (fun z => absurd hc z) (fun _ => ?_)
    refine lv_aload_n hx hb dL_law_525 rfl (lv_at hl 5 rfl) ?_
    refine lv_iconst (v := 0) hx hb dL_law_526 (by decide) ?_
    refine va_lald (f := (vp_updL f 0 ((K v1.toNatClampNeg 12)).toInt64)) hx hb hK hP 26 2 rfl rfl (vp_in_nI (n := 0) (by decide) (by decide)) dL_law_527 ?_
    refine W.eq (g2 := F0 m 528 ls [.long ((K v1.toNatClampNeg 12)).toInt64]) rfl ?_
    refine lv_iload hx hb dL_law_528 (lv_at hl 0 rfl) ?_
    refine cu_top (x' := (K v1.toNatClampNeg 12)) ((if_pos hc).trans (by rw [I.2.2.1 _ q0.1])) ?_
    refine lv_i2l (v := ((K v1.toNatClampNeg 12)).toInt64) hx hb dL_law_530 rfl ?_
    refine W.lcmp hx hb dL_law_531 ?_
    refine lv_if_eq (tgt := 537) hx hb dL_law_532 (by decide) (fun _ => ?_) (fun z => absurd (lw_cmp _) z)
    refine lv_goto (tgt := 1123) hx hb dL_law_537 (by decide) ?_
    refine W.widen (k := cells + 6) (n := slots + 170) (by omega) (by omega) ?_
    exact kk _ _ _ _ _ _ _ _ _ _ J hP hD hS (lv_sub hl [2, 3, 4, 5, 6] rfl)
  · obtain ⟨E, ho⟩ := k_hc_n (fun z => hc ((k_hc_H hN v1 v2 v3).symm.trans z))
    have hP : va_P D vwCl (lw_w C o r q (k_cH N v1 v2 v3) N mn M a K P out f) H := by
      rw [ho, if_neg hc] at hP
      exact hP
    have hD : va_D A (lw_w C o r q (k_cH N v1 v2 v3) N mn M a K P out f) := by
      rw [ho, if_neg hc] at hD
      exact hD
    refine lv_aload_n hx hb dL_law_509 rfl (lv_at hl 4 rfl) ?_
    have sp := cu_sp.pre (w := (cu_mw C o r q (k_cH N v1 v2 v3) (nI N) mn M)) (w' := (cu_mw C o r q (k_cH N v1 v2 v3) (nI N) mn M)) (Y := (cu_cw C a (nI N) mn K P ++ cu_ou C out f)) rfl
    refine cu_callI (va_runV (As := []) (rest := []) ⟨hx, hb, hml, hown, hts⟩ ((m_X2_thrown l D C o r q (k_cH N v1 v2 v3) N hN mn M) H.size) (cwV 0 hts gL_law_X2_thrown rfl rfl rfl (by decide +kernel) ⟨Nat.le_of_ble_eq_true rfl, Nat.le_of_ble_eq_true rfl⟩) (cu_preV (ci := 2) sp hG hP hD rfl rfl) rfl rfl hl.1 rfl (lv_room (Nat.le_of_ble_eq_true rfl)) dL_law_510 ⟨by show cells + 3 + 0 + 0 ≤ 601024; omega, by show slots + 18 + 0 + 0 ≤ 7293034; omega⟩) sp hP hD hS hA (fun H locs hP hD hS => ?_)
    refine lv_iload hx hb dL_law_513 (lv_at hl 1 rfl) ?_
    refine lv_icmp_eq (tgt := 520) hx hb dL_law_515 (by decide) (fun _ => ?_) (fun z => absurd (rfl) z)
    refine lv_iload hx hb dL_law_520 (lv_at hl 1 rfl) ?_
    refine lv_if_ne (tgt := 537) hx hb dL_law_522 (by decide) (fun _ => ?_) (fun z => absurd z hc)
    refine lv_goto (tgt := 1123) hx hb dL_law_537 (by decide) ?_
    refine W.widen (k := cells + 6) (n := slots + 170) (by omega) (by omega) ?_
    exact kk _ _ _ _ _ _ _ _ _ _ I.next hP hD hS (lv_sub hl [2, 3, 4, 5, 6] rfl)

set_option maxHeartbeats 4000000 in
set_option maxRecDepth 100000 in
theorem lw_op_clock {p : Program} {l : Launch} {e : Env} {s : State} {m : MethodId} {args : Array Value} {below : List Frame} {meth : Method} {c : Code} {A : Nat → Prop} {Z : State → Prop} {H0 H : Heap} {locs : List Loc} {ls : Array Slot} {D : va_G} {C : Nat → ClassId} {sb L o r q out i b N cells slots : Nat} {xs : Nat → Int32} {a : Nat → Nat} {f : Nat → Int64} {mn th : Int32} {K P M : Nat → Nat → Int32}
    (X : lw_cx p l s m args c A H0 D C sb L xs) (I : k_iv N mn K M b) (hb9 : b < 512) (hi : i + 5 ≤ L) (hL : L ≤ 2560) (hP : va_P D vwCl (lw_w C o r q th N mn M a K P out f) H) (hD : va_D A (lw_w C o r q th N mn M a K P out f)) (hS : va_S A H0 H locs) (hl : lv_has ls 9 [(0, .ref sb), (1, .ref (a 0)), (2, .ref o), (3, .ref out), (4, .int (nI i))]) (hc9 : cells + 10 ≤ 601024) (hs9 : slots + 200 ≤ 7293034)
    (kk : ∀ (N1 : Nat) (mn1 th1 : Int32) (K1 P1 M1 : Nat → Nat → Int32) (f1 : Nat → Int64) (H : Heap) (locs : List Loc) (ls : Array Slot), k_iv N1 mn1 K1 M1 (b + 1) → va_P D vwCl (lw_w C o r q th1 N1 mn1 M1 a K1 P1 out f1) H → va_D A (lw_w C o r q th1 N1 mn1 M1 a K1 P1 out f1) → va_S A H0 H locs → lv_has ls 9 [(0, .ref sb), (1, .ref (a 0)), (2, .ref o), (3, .ref out), (4, .int (nI i))] → W p l e room_1 s m args below meth c H locs (cells + 6) (slots + 170) Z (F0 m 1123 ls [])) : W p l e room_1 s m args below meth c H locs cells slots Z (F0 m 540 ls []) := by
  obtain ⟨hx, hb, hml, hts, hown, hG, hT, hX, hsb, hsA, hA, hlf⟩ := X
  have hK := hG.1
  have hN := I.1
  refine lv_aload_n hx hb dL_law_540 rfl (lv_at hl 1 rfl) ?_
  refine lv_aload_n hx hb dL_law_541 rfl (lv_at hl 0 rfl) ?_
  refine lv_iload hx hb dL_law_542 (lv_at hl 4 rfl) ?_
  refine lv_iconst (v := 1) hx hb dL_law_544 (by decide) ?_
  refine lv_iadd hx hb dL_law_545 ?_
  refine cu_top (x' := nI (i + 1)) (lw_ik i 1) ?_
  refine va_sld hx hb hX hsb hsA hS (lw_ix hi hL (by decide)) dL_law_546 ?_
  refine lv_topi (fun v1 ev1 => ?_)
  refine lv_aload_n hx hb dL_law_547 rfl (lv_at hl 0 rfl) ?_
  refine lv_iload hx hb dL_law_548 (lv_at hl 4 rfl) ?_
  refine lv_iconst (v := 2) hx hb dL_law_550 (by decide) ?_
  refine lv_iadd hx hb dL_law_551 ?_
  refine cu_top (x' := nI (i + 2)) (lw_ik i 2) ?_
  refine va_sld hx hb hX hsb hsA hS (lw_ix hi hL (by decide)) dL_law_552 ?_
  refine lv_topi (fun v2 ev2 => ?_)
  refine lv_aload_n hx hb dL_law_553 rfl (lv_at hl 3 rfl) ?_
  have sp := cu_sp.suf (X := (cu_mw C o r q th (nI N) mn M)) (w := (cu_cw C a (nI N) mn K P) ++ cu_ou C out f) (w' := (k_sel ((k_oC N v1).or (k_oR v2)) ((cu_cw C a (nI N) mn K P) ++ cu_ou C out (vp_updL f 0 ((k_read (K v1.toNatClampNeg) v2)).toInt64)) ((cu_cw C a (nI N) mn K P) ++ cu_ou C out f))) (k_sel_fst rfl rfl)
  refine cu_callI (vx_runSW (As := [.ref (a 0), .int v1, .int v2, .ref out]) (rest := []) ⟨hx, hb, hml, hown, hts⟩ ((m_L_clock l hlf D C a N hN mn K P v1 v2 out f) H.size) (vx_cwSW 4 hts gL_law_L_clock rfl rfl rfl (by decide +kernel) ⟨Nat.le_of_ble_eq_true rfl, Nat.le_of_ble_eq_true rfl⟩) (cu_preXS sp hG hP hD hT hS hA) rfl rfl hl.1 rfl (lv_room (Nat.le_of_ble_eq_true rfl)) dL_law_554 ⟨by show cells + 2 ≤ 601024; omega, by show slots + 12 ≤ 7293034; omega⟩) sp hP hD hS hA (fun H locs hP hD hS => ?_)
  refine cu_top (x' := k_cR N v1 v2) (k_hc_R hN v1 v2) ?_
  refine lv_istore (lv' := [(5, .int (k_cR N v1 v2)), (0, .ref sb), (1, .ref (a 0)), (2, .ref o), (3, .ref out), (4, .int (nI i))]) hx hb dL_law_557 hl (by decide) rfl (fun ls hl => ?_)
  refine lv_aload_n hx hb dL_law_559 rfl (lv_at hl 3 rfl) ?_
  refine lv_aload_n hx hb dL_law_560 rfl (lv_at hl 1 rfl) ?_
  refine lv_iload hx hb dL_law_561 (lv_at hl 5 rfl) ?_
  refine lv_iconst (v := 1) hx hb dL_law_563 (by decide) ?_
  refine lv_iadd hx hb dL_law_564 ?_
  refine cu_top (x' := nI (i + 1)) (lw_ik i 1) ?_
  refine va_sld hx hb hX hsb hsA hS (lw_ix hi hL (by decide)) dL_law_565 ?_
  refine cu_top (x' := v1) ev1.symm ?_
  refine lv_aload_n hx hb dL_law_566 rfl (lv_at hl 1 rfl) ?_
  refine lv_iload hx hb dL_law_567 (lv_at hl 5 rfl) ?_
  refine lv_iconst (v := 2) hx hb dL_law_569 (by decide) ?_
  refine lv_iadd hx hb dL_law_570 ?_
  refine cu_top (x' := nI (i + 2)) (lw_ik i 2) ?_
  refine va_sld hx hb hX hsb hsA hS (lw_ix hi hL (by decide)) dL_law_571 ?_
  refine cu_top (x' := v2) ev2.symm ?_
  have sp := cu_sp.pre (w := (cu_mw C o r q th (nI N) mn M)) (w' := (cu_mw C o r q (k_cR N v1 v2) (nI N) mn M)) (Y := (k_sel ((k_oC N v1).or (k_oR v2)) ((cu_cw C a (nI N) mn K P) ++ cu_ou C out (vp_updL f 0 ((k_read (K v1.toNatClampNeg) v2)).toInt64)) ((cu_cw C a (nI N) mn K P) ++ cu_ou C out f))) cu_mw_fst
  refine cu_callI (va_runV (As := [.int v1, .int v2]) (rest := []) ⟨hx, hb, hml, hown, hts⟩ ((m_X2_clock l D C o r q th N hN mn M v1 v2 I.okM) H.size) (cwV 2 hts gL_law_X2_clock rfl rfl rfl (by decide +kernel) ⟨Nat.le_of_ble_eq_true rfl, Nat.le_of_ble_eq_true rfl⟩) (cu_preV (ci := 2) sp hG hP hD rfl rfl) rfl rfl hl.1 rfl (lv_room (Nat.le_of_ble_eq_true rfl)) dL_law_572 ⟨by show cells + 2 + 0 ≤ 601024; omega, by show slots + 12 + 0 ≤ 7293034; omega⟩) sp hP hD hS hA (fun H locs hP hD hS => ?_)
  refine lv_istore (lv' := [(6, .int (if k_cR N v1 v2 = 0 then (k_read (M v1.toNatClampNeg) v2) else 0)), (5, .int (k_cR N v1 v2)), (0, .ref sb), (1, .ref (a 0)), (2, .ref o), (3, .ref out), (4, .int (nI i))]) hx hb dL_law_575 hl (by decide) rfl (fun ls hl => ?_)
  by_cases hc : k_cR N v1 v2 = 0
  · have ho : ((k_oC N v1).or (k_oR v2)) = none := k_hc_0 ((k_hc_R hN v1 v2).trans hc)
    have q0 := k_cR_0 hN hc
    have hP : va_P D vwCl (lw_w C o r q 0 N mn M a K P out (vp_updL f 0 ((k_read (K v1.toNatClampNeg) v2)).toInt64)) H := by
      rw [ho, hc] at hP
      exact hP
    have hD : va_D A (lw_w C o r q 0 N mn M a K P out (vp_updL f 0 ((k_read (K v1.toNatClampNeg) v2)).toInt64)) := by
      rw [ho, hc] at hD
      exact hD
    have J := I.next
    refine lv_aload_n hx hb dL_law_577 rfl (lv_at hl 4 rfl) ?_
    have sp := cu_sp.pre (w := (cu_mw C o r q 0 (nI N) mn M)) (w' := (cu_mw C o r q 0 (nI N) mn M)) (Y := (cu_cw C a (nI N) mn K P ++ cu_ou C out (vp_updL f 0 ((k_read (K v1.toNatClampNeg) v2)).toInt64))) rfl
    refine cu_callI (va_runV (As := []) (rest := []) ⟨hx, hb, hml, hown, hts⟩ ((m_X2_thrown l D C o r q 0 N J.1 mn M) H.size) (cwV 0 hts gL_law_X2_thrown rfl rfl rfl (by decide +kernel) ⟨Nat.le_of_ble_eq_true rfl, Nat.le_of_ble_eq_true rfl⟩) (cu_preV (ci := 2) sp hG hP hD rfl rfl) rfl rfl hl.1 rfl (lv_room (Nat.le_of_ble_eq_true rfl)) dL_law_578 ⟨by show cells + 2 + 0 + 0 ≤ 601024; omega, by show slots + 12 + 0 + 0 ≤ 7293034; omega⟩) sp hP hD hS hA (fun H locs hP hD hS => ?_)
    refine lv_iload hx hb dL_law_581 (lv_at hl 1 rfl) ?_
    refine lv_icmp_eq (tgt := 588) hx hb dL_law_583 (by decide) (fun _ => ?_) (fun z => absurd (hc.symm) z)
    refine lv_iload hx hb dL_law_588 (lv_at hl 1 rfl) ?_
    refine lv_if_ne (tgt := 605) hx hb dL_law_590 (by decide) (fun z => absurd hc z) (fun _ => ?_)
    refine lv_aload_n hx hb dL_law_593 rfl (lv_at hl 5 rfl) ?_
    refine lv_iconst (v := 0) hx hb dL_law_594 (by decide) ?_
    refine va_lald (f := (vp_updL f 0 ((k_read (K v1.toNatClampNeg) v2)).toInt64)) hx hb hK hP 26 2 rfl rfl (vp_in_nI (n := 0) (by decide) (by decide)) dL_law_595 ?_
    refine W.eq (g2 := F0 m 596 ls [.long ((k_read (K v1.toNatClampNeg) v2)).toInt64]) rfl ?_
    refine lv_iload hx hb dL_law_596 (lv_at hl 0 rfl) ?_
    refine cu_top (x' := (k_read (K v1.toNatClampNeg) v2)) ((if_pos hc).trans (by rw [I.2.2.1 _ q0])) ?_
    refine lv_i2l (v := ((k_read (K v1.toNatClampNeg) v2)).toInt64) hx hb dL_law_598 rfl ?_
    refine W.lcmp hx hb dL_law_599 ?_
    refine lv_if_eq (tgt := 605) hx hb dL_law_600 (by decide) (fun _ => ?_) (fun z => absurd (lw_cmp _) z)
    refine lv_goto (tgt := 1123) hx hb dL_law_605 (by decide) ?_
    refine W.widen (k := cells + 6) (n := slots + 170) (by omega) (by omega) ?_
    exact kk _ _ _ _ _ _ _ _ _ _ J hP hD hS (lv_sub hl [2, 3, 4, 5, 6] rfl)
  · obtain ⟨E, ho⟩ := k_hc_n (fun z => hc ((k_hc_R hN v1 v2).symm.trans z))
    have hP : va_P D vwCl (lw_w C o r q (k_cR N v1 v2) N mn M a K P out f) H := by
      rw [ho] at hP
      exact hP
    have hD : va_D A (lw_w C o r q (k_cR N v1 v2) N mn M a K P out f) := by
      rw [ho] at hD
      exact hD
    refine lv_aload_n hx hb dL_law_577 rfl (lv_at hl 4 rfl) ?_
    have sp := cu_sp.pre (w := (cu_mw C o r q (k_cR N v1 v2) (nI N) mn M)) (w' := (cu_mw C o r q (k_cR N v1 v2) (nI N) mn M)) (Y := (cu_cw C a (nI N) mn K P ++ cu_ou C out f)) rfl
    refine cu_callI (va_runV (As := []) (rest := []) ⟨hx, hb, hml, hown, hts⟩ ((m_X2_thrown l D C o r q (k_cR N v1 v2) N hN mn M) H.size) (cwV 0 hts gL_law_X2_thrown rfl rfl rfl (by decide +kernel) ⟨Nat.le_of_ble_eq_true rfl, Nat.le_of_ble_eq_true rfl⟩) (cu_preV (ci := 2) sp hG hP hD rfl rfl) rfl rfl hl.1 rfl (lv_room (Nat.le_of_ble_eq_true rfl)) dL_law_578 ⟨by show cells + 2 + 0 + 0 ≤ 601024; omega, by show slots + 12 + 0 + 0 ≤ 7293034; omega⟩) sp hP hD hS hA (fun H locs hP hD hS => ?_)
    refine lv_iload hx hb dL_law_581 (lv_at hl 1 rfl) ?_
    refine lv_icmp_eq (tgt := 588) hx hb dL_law_583 (by decide) (fun _ => ?_) (fun z => absurd (rfl) z)
    refine lv_iload hx hb dL_law_588 (lv_at hl 1 rfl) ?_
    refine lv_if_ne (tgt := 605) hx hb dL_law_590 (by decide) (fun _ => ?_) (fun z => absurd z hc)
    refine lv_goto (tgt := 1123) hx hb dL_law_605 (by decide) ?_
    refine W.widen (k := cells + 6) (n := slots + 170) (by omega) (by omega) ?_
    exact kk _ _ _ _ _ _ _ _ _ _ I.next hP hD hS (lv_sub hl [2, 3, 4, 5, 6] rfl)

set_option maxHeartbeats 4000000 in
set_option maxRecDepth 100000 in
theorem lw_op_off {p : Program} {l : Launch} {e : Env} {s : State} {m : MethodId} {args : Array Value} {below : List Frame} {meth : Method} {c : Code} {A : Nat → Prop} {Z : State → Prop} {H0 H : Heap} {locs : List Loc} {ls : Array Slot} {D : va_G} {C : Nat → ClassId} {sb L o r q out i b N cells slots : Nat} {xs : Nat → Int32} {a : Nat → Nat} {f : Nat → Int64} {mn th : Int32} {K P M : Nat → Nat → Int32}
    (X : lw_cx p l s m args c A H0 D C sb L xs) (I : k_iv N mn K M b) (hb9 : b < 512) (hi : i + 5 ≤ L) (hL : L ≤ 2560) (hP : va_P D vwCl (lw_w C o r q th N mn M a K P out f) H) (hD : va_D A (lw_w C o r q th N mn M a K P out f)) (hS : va_S A H0 H locs) (hl : lv_has ls 9 [(0, .ref sb), (1, .ref (a 0)), (2, .ref o), (3, .ref out), (4, .int (nI i))]) (hc9 : cells + 10 ≤ 601024) (hs9 : slots + 200 ≤ 7293034)
    (kk : ∀ (N1 : Nat) (mn1 th1 : Int32) (K1 P1 M1 : Nat → Nat → Int32) (f1 : Nat → Int64) (H : Heap) (locs : List Loc) (ls : Array Slot), k_iv N1 mn1 K1 M1 (b + 1) → va_P D vwCl (lw_w C o r q th1 N1 mn1 M1 a K1 P1 out f1) H → va_D A (lw_w C o r q th1 N1 mn1 M1 a K1 P1 out f1) → va_S A H0 H locs → lv_has ls 9 [(0, .ref sb), (1, .ref (a 0)), (2, .ref o), (3, .ref out), (4, .int (nI i))] → W p l e room_1 s m args below meth c H locs (cells + 6) (slots + 170) Z (F0 m 1123 ls [])) : W p l e room_1 s m args below meth c H locs cells slots Z (F0 m 608 ls []) := by
  obtain ⟨hx, hb, hml, hts, hown, hG, hT, hX, hsb, hsA, hA, hlf⟩ := X
  have hK := hG.1
  have hN := I.1
  refine lv_aload_n hx hb dL_law_608 rfl (lv_at hl 1 rfl) ?_
  refine lv_aload_n hx hb dL_law_609 rfl (lv_at hl 0 rfl) ?_
  refine lv_iload hx hb dL_law_610 (lv_at hl 4 rfl) ?_
  refine lv_iconst (v := 1) hx hb dL_law_612 (by decide) ?_
  refine lv_iadd hx hb dL_law_613 ?_
  refine cu_top (x' := nI (i + 1)) (lw_ik i 1) ?_
  refine va_sld hx hb hX hsb hsA hS (lw_ix hi hL (by decide)) dL_law_614 ?_
  refine lv_topi (fun v1 ev1 => ?_)
  refine lv_aload_n hx hb dL_law_615 rfl (lv_at hl 3 rfl) ?_
  have sp := cu_sp.suf (X := (cu_mw C o r q th (nI N) mn M)) (w := (cu_cw C a (nI N) mn K P) ++ cu_ou C out f) (w' := (k_sel (k_oC N v1) ((cu_cw C a (nI N) mn K P) ++ cu_ou C out (vp_updL f 0 ((k_off (K v1.toNatClampNeg) mn)).toInt64)) ((cu_cw C a (nI N) mn K P) ++ cu_ou C out f))) (k_sel_fst rfl rfl)
  refine cu_callI (vx_runSW (As := [.ref (a 0), .int v1, .ref out]) (rest := []) ⟨hx, hb, hml, hown, hts⟩ ((m_L_off l hlf D C a N hN mn K P v1 out f) H.size) (vx_cwSW 3 hts gL_law_L_off rfl rfl rfl (by decide +kernel) ⟨Nat.le_of_ble_eq_true rfl, Nat.le_of_ble_eq_true rfl⟩) (cu_preXS sp hG hP hD hT hS hA) rfl rfl hl.1 rfl (lv_room (Nat.le_of_ble_eq_true rfl)) dL_law_616 ⟨by show cells + 1 ≤ 601024; omega, by show slots + 6 ≤ 7293034; omega⟩) sp hP hD hS hA (fun H locs hP hD hS => ?_)
  refine cu_top (x' := k_c1 N v1) (k_hc_c hN v1) ?_
  refine lv_istore (lv' := [(5, .int (k_c1 N v1)), (0, .ref sb), (1, .ref (a 0)), (2, .ref o), (3, .ref out), (4, .int (nI i))]) hx hb dL_law_619 hl (by decide) rfl (fun ls hl => ?_)
  refine lv_aload_n hx hb dL_law_621 rfl (lv_at hl 3 rfl) ?_
  refine lv_aload_n hx hb dL_law_622 rfl (lv_at hl 1 rfl) ?_
  refine lv_iload hx hb dL_law_623 (lv_at hl 5 rfl) ?_
  refine lv_iconst (v := 1) hx hb dL_law_625 (by decide) ?_
  refine lv_iadd hx hb dL_law_626 ?_
  refine cu_top (x' := nI (i + 1)) (lw_ik i 1) ?_
  refine va_sld hx hb hX hsb hsA hS (lw_ix hi hL (by decide)) dL_law_627 ?_
  refine cu_top (x' := v1) ev1.symm ?_
  have sp := cu_sp.pre (w := (cu_mw C o r q th (nI N) mn M)) (w' := (cu_mw C o r q (k_c1 N v1) (nI N) mn M)) (Y := (k_sel (k_oC N v1) ((cu_cw C a (nI N) mn K P) ++ cu_ou C out (vp_updL f 0 ((k_off (K v1.toNatClampNeg) mn)).toInt64)) ((cu_cw C a (nI N) mn K P) ++ cu_ou C out f))) cu_mw_fst
  refine cu_callI (va_runV (As := [.int v1]) (rest := []) ⟨hx, hb, hml, hown, hts⟩ ((m_X2_off l D C o r q th N hN mn M v1 I.okM I.2.2.2.2.1) H.size) (cwV 1 hts gL_law_X2_off rfl rfl rfl (by decide +kernel) ⟨Nat.le_of_ble_eq_true rfl, Nat.le_of_ble_eq_true rfl⟩) (cu_preV (ci := 2) sp hG hP hD rfl rfl) rfl rfl hl.1 rfl (lv_room (Nat.le_of_ble_eq_true rfl)) dL_law_628 ⟨by show cells + 1 + 0 ≤ 601024; omega, by show slots + 6 + 0 ≤ 7293034; omega⟩) sp hP hD hS hA (fun H locs hP hD hS => ?_)
  refine lv_istore (lv' := [(6, .int (if k_c1 N v1 = 0 then (k_off (M v1.toNatClampNeg) mn) else 0)), (5, .int (k_c1 N v1)), (0, .ref sb), (1, .ref (a 0)), (2, .ref o), (3, .ref out), (4, .int (nI i))]) hx hb dL_law_631 hl (by decide) rfl (fun ls hl => ?_)
  by_cases hc : k_c1 N v1 = 0
  · have ho : (k_oC N v1) = none := k_hc_0 ((k_hc_c hN v1).trans hc)
    have q0 := k_c1_0 hN hc
    have hP : va_P D vwCl (lw_w C o r q 0 N mn M a K P out (vp_updL f 0 ((k_off (K v1.toNatClampNeg) mn)).toInt64)) H := by
      rw [ho, hc] at hP
      exact hP
    have hD : va_D A (lw_w C o r q 0 N mn M a K P out (vp_updL f 0 ((k_off (K v1.toNatClampNeg) mn)).toInt64)) := by
      rw [ho, hc] at hD
      exact hD
    have J := I.next
    refine lv_aload_n hx hb dL_law_633 rfl (lv_at hl 4 rfl) ?_
    have sp := cu_sp.pre (w := (cu_mw C o r q 0 (nI N) mn M)) (w' := (cu_mw C o r q 0 (nI N) mn M)) (Y := (cu_cw C a (nI N) mn K P ++ cu_ou C out (vp_updL f 0 ((k_off (K v1.toNatClampNeg) mn)).toInt64))) rfl
    refine cu_callI (va_runV (As := []) (rest := []) ⟨hx, hb, hml, hown, hts⟩ ((m_X2_thrown l D C o r q 0 N J.1 mn M) H.size) (cwV 0 hts gL_law_X2_thrown rfl rfl rfl (by decide +kernel) ⟨Nat.le_of_ble_eq_true rfl, Nat.le_of_ble_eq_true rfl⟩) (cu_preV (ci := 2) sp hG hP hD rfl rfl) rfl rfl hl.1 rfl (lv_room (Nat.le_of_ble_eq_true rfl)) dL_law_634 ⟨by show cells + 1 + 0 + 0 ≤ 601024; omega, by show slots + 6 + 0 + 0 ≤ 7293034; omega⟩) sp hP hD hS hA (fun H locs hP hD hS => ?_)
    refine lv_iload hx hb dL_law_637 (lv_at hl 1 rfl) ?_
    refine lv_icmp_eq (tgt := 644) hx hb dL_law_639 (by decide) (fun _ => ?_) (fun z => absurd (hc.symm) z)
    refine lv_iload hx hb dL_law_644 (lv_at hl 1 rfl) ?_
    refine lv_if_ne (tgt := 661) hx hb dL_law_646 (by decide) (fun z => absurd hc z) (fun _ => ?_)
    refine lv_aload_n hx hb dL_law_649 rfl (lv_at hl 5 rfl) ?_
    refine lv_iconst (v := 0) hx hb dL_law_650 (by decide) ?_
    refine va_lald (f := (vp_updL f 0 ((k_off (K v1.toNatClampNeg) mn)).toInt64)) hx hb hK hP 26 2 rfl rfl (vp_in_nI (n := 0) (by decide) (by decide)) dL_law_651 ?_
    refine W.eq (g2 := F0 m 652 ls [.long ((k_off (K v1.toNatClampNeg) mn)).toInt64]) rfl ?_
    refine lv_iload hx hb dL_law_652 (lv_at hl 0 rfl) ?_
    refine cu_top (x' := (k_off (K v1.toNatClampNeg) mn)) ((if_pos hc).trans (by rw [I.2.2.1 _ q0])) ?_
    refine lv_i2l (v := ((k_off (K v1.toNatClampNeg) mn)).toInt64) hx hb dL_law_654 rfl ?_
    refine W.lcmp hx hb dL_law_655 ?_
    refine lv_if_eq (tgt := 661) hx hb dL_law_656 (by decide) (fun _ => ?_) (fun z => absurd (lw_cmp _) z)
    refine lv_goto (tgt := 1123) hx hb dL_law_661 (by decide) ?_
    refine W.widen (k := cells + 6) (n := slots + 170) (by omega) (by omega) ?_
    exact kk _ _ _ _ _ _ _ _ _ _ J hP hD hS (lv_sub hl [2, 3, 4, 5, 6] rfl)
  · obtain ⟨E, ho⟩ := k_hc_n (fun z => hc ((k_hc_c hN v1).symm.trans z))
    have hP : va_P D vwCl (lw_w C o r q (k_c1 N v1) N mn M a K P out f) H := by
      rw [ho] at hP
      exact hP
    have hD : va_D A (lw_w C o r q (k_c1 N v1) N mn M a K P out f) := by
      rw [ho] at hD
      exact hD
    refine lv_aload_n hx hb dL_law_633 rfl (lv_at hl 4 rfl) ?_
    have sp := cu_sp.pre (w := (cu_mw C o r q (k_c1 N v1) (nI N) mn M)) (w' := (cu_mw C o r q (k_c1 N v1) (nI N) mn M)) (Y := (cu_cw C a (nI N) mn K P ++ cu_ou C out f)) rfl
    refine cu_callI (va_runV (As := []) (rest := []) ⟨hx, hb, hml, hown, hts⟩ ((m_X2_thrown l D C o r q (k_c1 N v1) N hN mn M) H.size) (cwV 0 hts gL_law_X2_thrown rfl rfl rfl (by decide +kernel) ⟨Nat.le_of_ble_eq_true rfl, Nat.le_of_ble_eq_true rfl⟩) (cu_preV (ci := 2) sp hG hP hD rfl rfl) rfl rfl hl.1 rfl (lv_room (Nat.le_of_ble_eq_true rfl)) dL_law_634 ⟨by show cells + 1 + 0 + 0 ≤ 601024; omega, by show slots + 6 + 0 + 0 ≤ 7293034; omega⟩) sp hP hD hS hA (fun H locs hP hD hS => ?_)
    refine lv_iload hx hb dL_law_637 (lv_at hl 1 rfl) ?_
    refine lv_icmp_eq (tgt := 644) hx hb dL_law_639 (by decide) (fun _ => ?_) (fun z => absurd (rfl) z)
    refine lv_iload hx hb dL_law_644 (lv_at hl 1 rfl) ?_
    refine lv_if_ne (tgt := 661) hx hb dL_law_646 (by decide) (fun _ => ?_) (fun z => absurd z hc)
    refine lv_goto (tgt := 1123) hx hb dL_law_661 (by decide) ?_
    refine W.widen (k := cells + 6) (n := slots + 170) (by omega) (by omega) ?_
    exact kk _ _ _ _ _ _ _ _ _ _ I.next hP hD hS (lv_sub hl [2, 3, 4, 5, 6] rfl)

set_option maxHeartbeats 4000000 in
set_option maxRecDepth 100000 in
theorem lw_op_count {p : Program} {l : Launch} {e : Env} {s : State} {m : MethodId} {args : Array Value} {below : List Frame} {meth : Method} {c : Code} {A : Nat → Prop} {Z : State → Prop} {H0 H : Heap} {locs : List Loc} {ls : Array Slot} {D : va_G} {C : Nat → ClassId} {sb L o r q out i b N cells slots : Nat} {xs : Nat → Int32} {a : Nat → Nat} {f : Nat → Int64} {mn th : Int32} {K P M : Nat → Nat → Int32}
    (X : lw_cx p l s m args c A H0 D C sb L xs) (I : k_iv N mn K M b) (hb9 : b < 512) (hi : i + 5 ≤ L) (hL : L ≤ 2560) (hP : va_P D vwCl (lw_w C o r q th N mn M a K P out f) H) (hD : va_D A (lw_w C o r q th N mn M a K P out f)) (hS : va_S A H0 H locs) (hl : lv_has ls 9 [(0, .ref sb), (1, .ref (a 0)), (2, .ref o), (3, .ref out), (4, .int (nI i))]) (hc9 : cells + 10 ≤ 601024) (hs9 : slots + 200 ≤ 7293034)
    (kk : ∀ (N1 : Nat) (mn1 th1 : Int32) (K1 P1 M1 : Nat → Nat → Int32) (f1 : Nat → Int64) (H : Heap) (locs : List Loc) (ls : Array Slot), k_iv N1 mn1 K1 M1 (b + 1) → va_P D vwCl (lw_w C o r q th1 N1 mn1 M1 a K1 P1 out f1) H → va_D A (lw_w C o r q th1 N1 mn1 M1 a K1 P1 out f1) → va_S A H0 H locs → lv_has ls 9 [(0, .ref sb), (1, .ref (a 0)), (2, .ref o), (3, .ref out), (4, .int (nI i))] → W p l e room_1 s m args below meth c H locs (cells + 6) (slots + 170) Z (F0 m 1123 ls [])) : W p l e room_1 s m args below meth c H locs cells slots Z (F0 m 664 ls []) := by
  obtain ⟨hx, hb, hml, hts, hown, hG, hT, hX, hsb, hsA, hA, hlf⟩ := X
  have hK := hG.1
  have hN := I.1
  refine lv_aload_n hx hb dL_law_664 rfl (lv_at hl 1 rfl) ?_
  refine lv_aload_n hx hb dL_law_665 rfl (lv_at hl 0 rfl) ?_
  refine lv_iload hx hb dL_law_666 (lv_at hl 4 rfl) ?_
  refine lv_iconst (v := 1) hx hb dL_law_668 (by decide) ?_
  refine lv_iadd hx hb dL_law_669 ?_
  refine cu_top (x' := nI (i + 1)) (lw_ik i 1) ?_
  refine va_sld hx hb hX hsb hsA hS (lw_ix hi hL (by decide)) dL_law_670 ?_
  refine lv_topi (fun v1 ev1 => ?_)
  refine lv_aload_n hx hb dL_law_671 rfl (lv_at hl 3 rfl) ?_
  have sp := cu_sp.suf (X := (cu_mw C o r q th (nI N) mn M)) (w := (cu_cw C a (nI N) mn K P) ++ cu_ou C out f) (w' := (k_sel (k_oY v1) ((cu_cw C a (nI N) mn K P) ++ cu_ou C out (vp_updL f 0 ((k_tally N K mn v1)).toInt64)) ((cu_cw C a (nI N) mn K P) ++ cu_ou C out f))) (k_sel_fst rfl rfl)
  refine cu_callI (vx_runSW (As := [.ref (a 0), .int v1, .ref out]) (rest := []) ⟨hx, hb, hml, hown, hts⟩ ((m_L_count l hlf D C a N hN mn K P v1 out f) H.size) (vx_cwSW 3 hts gL_law_L_count rfl rfl rfl (by decide +kernel) ⟨Nat.le_of_ble_eq_true rfl, Nat.le_of_ble_eq_true rfl⟩) (cu_preXS sp hG hP hD hT hS hA) rfl rfl hl.1 rfl (lv_room (Nat.le_of_ble_eq_true rfl)) dL_law_672 ⟨by show cells + 1 ≤ 601024; omega, by show slots + 6 ≤ 7293034; omega⟩) sp hP hD hS hA (fun H locs hP hD hS => ?_)
  refine cu_top (x' := k_cY v1) (k_hc_Y v1) ?_
  refine lv_istore (lv' := [(5, .int (k_cY v1)), (0, .ref sb), (1, .ref (a 0)), (2, .ref o), (3, .ref out), (4, .int (nI i))]) hx hb dL_law_675 hl (by decide) rfl (fun ls hl => ?_)
  refine lv_aload_n hx hb dL_law_677 rfl (lv_at hl 3 rfl) ?_
  refine lv_aload_n hx hb dL_law_678 rfl (lv_at hl 1 rfl) ?_
  refine lv_iload hx hb dL_law_679 (lv_at hl 5 rfl) ?_
  refine lv_iconst (v := 1) hx hb dL_law_681 (by decide) ?_
  refine lv_iadd hx hb dL_law_682 ?_
  refine cu_top (x' := nI (i + 1)) (lw_ik i 1) ?_
  refine va_sld hx hb hX hsb hsA hS (lw_ix hi hL (by decide)) dL_law_683 ?_
  refine cu_top (x' := v1) ev1.symm ?_
  have sp := cu_sp.pre (w := (cu_mw C o r q th (nI N) mn M)) (w' := (cu_mw C o r q (k_cY v1) (nI N) mn M)) (Y := (k_sel (k_oY v1) ((cu_cw C a (nI N) mn K P) ++ cu_ou C out (vp_updL f 0 ((k_tally N K mn v1)).toInt64)) ((cu_cw C a (nI N) mn K P) ++ cu_ou C out f))) cu_mw_fst
  refine cu_callI (va_runV (As := [.int v1]) (rest := []) ⟨hx, hb, hml, hown, hts⟩ ((m_X2_count l D C o r q th N hN mn M v1 I.okM I.2.2.2.2.1) H.size) (cwV 1 hts gL_law_X2_count rfl rfl rfl (by decide +kernel) ⟨Nat.le_of_ble_eq_true rfl, Nat.le_of_ble_eq_true rfl⟩) (cu_preV (ci := 2) sp hG hP hD rfl rfl) rfl rfl hl.1 rfl (lv_room (Nat.le_of_ble_eq_true rfl)) dL_law_684 ⟨by show cells + 1 + 0 ≤ 601024; omega, by show slots + 6 + 0 ≤ 7293034; omega⟩) sp hP hD hS hA (fun H locs hP hD hS => ?_)
  refine lv_istore (lv' := [(6, .int (if k_cY v1 = 0 then (k_tally N M mn v1) else 0)), (5, .int (k_cY v1)), (0, .ref sb), (1, .ref (a 0)), (2, .ref o), (3, .ref out), (4, .int (nI i))]) hx hb dL_law_687 hl (by decide) rfl (fun ls hl => ?_)
  by_cases hc : k_cY v1 = 0
  · have ho : (k_oY v1) = none := k_hc_0 ((k_hc_Y v1).trans hc)
    have hP : va_P D vwCl (lw_w C o r q 0 N mn M a K P out (vp_updL f 0 ((k_tally N K mn v1)).toInt64)) H := by
      rw [ho, hc] at hP
      exact hP
    have hD : va_D A (lw_w C o r q 0 N mn M a K P out (vp_updL f 0 ((k_tally N K mn v1)).toInt64)) := by
      rw [ho, hc] at hD
      exact hD
    have J := I.next
    refine lv_aload_n hx hb dL_law_689 rfl (lv_at hl 4 rfl) ?_
    have sp := cu_sp.pre (w := (cu_mw C o r q 0 (nI N) mn M)) (w' := (cu_mw C o r q 0 (nI N) mn M)) (Y := (cu_cw C a (nI N) mn K P ++ cu_ou C out (vp_updL f 0 ((k_tally N K mn v1)).toInt64))) rfl
    refine cu_callI (va_runV (As := []) (rest := []) ⟨hx, hb, hml, hown, hts⟩ ((m_X2_thrown l D C o r q 0 N J.1 mn M) H.size) (cwV 0 hts gL_law_X2_thrown rfl rfl rfl (by decide +kernel) ⟨Nat.le_of_ble_eq_true rfl, Nat.le_of_ble_eq_true rfl⟩) (cu_preV (ci := 2) sp hG hP hD rfl rfl) rfl rfl hl.1 rfl (lv_room (Nat.le_of_ble_eq_true rfl)) dL_law_690 ⟨by show cells + 1 + 0 + 0 ≤ 601024; omega, by show slots + 6 + 0 + 0 ≤ 7293034; omega⟩) sp hP hD hS hA (fun H locs hP hD hS => ?_)
    refine lv_iload hx hb dL_law_693 (lv_at hl 1 rfl) ?_
    refine lv_icmp_eq (tgt := 700) hx hb dL_law_695 (by decide) (fun _ => ?_) (fun z => absurd (hc.symm) z)
    refine lv_iload hx hb dL_law_700 (lv_at hl 1 rfl) ?_
    refine lv_if_ne (tgt := 717) hx hb dL_law_702 (by decide) (fun z => absurd hc z) (fun _ => ?_)
    refine lv_aload_n hx hb dL_law_705 rfl (lv_at hl 5 rfl) ?_
    refine lv_iconst (v := 0) hx hb dL_law_706 (by decide) ?_
    refine va_lald (f := (vp_updL f 0 ((k_tally N K mn v1)).toInt64)) hx hb hK hP 26 2 rfl rfl (vp_in_nI (n := 0) (by decide) (by decide)) dL_law_707 ?_
    refine W.eq (g2 := F0 m 708 ls [.long ((k_tally N K mn v1)).toInt64]) rfl ?_
    refine lv_iload hx hb dL_law_708 (lv_at hl 0 rfl) ?_
    refine cu_top (x' := (k_tally N K mn v1)) ((if_pos hc).trans (k_tally_eq I.2.2.1)) ?_
    refine lv_i2l (v := ((k_tally N K mn v1)).toInt64) hx hb dL_law_710 rfl ?_
    refine W.lcmp hx hb dL_law_711 ?_
    refine lv_if_eq (tgt := 717) hx hb dL_law_712 (by decide) (fun _ => ?_) (fun z => absurd (lw_cmp _) z)
    refine lv_goto (tgt := 1123) hx hb dL_law_717 (by decide) ?_
    refine W.widen (k := cells + 6) (n := slots + 170) (by omega) (by omega) ?_
    exact kk _ _ _ _ _ _ _ _ _ _ J hP hD hS (lv_sub hl [2, 3, 4, 5, 6] rfl)
  · obtain ⟨E, ho⟩ := k_hc_n (fun z => hc ((k_hc_Y v1).symm.trans z))
    have hP : va_P D vwCl (lw_w C o r q (k_cY v1) N mn M a K P out f) H := by
      rw [ho] at hP
      exact hP
    have hD : va_D A (lw_w C o r q (k_cY v1) N mn M a K P out f) := by
      rw [ho] at hD
      exact hD
    refine lv_aload_n hx hb dL_law_689 rfl (lv_at hl 4 rfl) ?_
    have sp := cu_sp.pre (w := (cu_mw C o r q (k_cY v1) (nI N) mn M)) (w' := (cu_mw C o r q (k_cY v1) (nI N) mn M)) (Y := (cu_cw C a (nI N) mn K P ++ cu_ou C out f)) rfl
    refine cu_callI (va_runV (As := []) (rest := []) ⟨hx, hb, hml, hown, hts⟩ ((m_X2_thrown l D C o r q (k_cY v1) N hN mn M) H.size) (cwV 0 hts gL_law_X2_thrown rfl rfl rfl (by decide +kernel) ⟨Nat.le_of_ble_eq_true rfl, Nat.le_of_ble_eq_true rfl⟩) (cu_preV (ci := 2) sp hG hP hD rfl rfl) rfl rfl hl.1 rfl (lv_room (Nat.le_of_ble_eq_true rfl)) dL_law_690 ⟨by show cells + 1 + 0 + 0 ≤ 601024; omega, by show slots + 6 + 0 + 0 ≤ 7293034; omega⟩) sp hP hD hS hA (fun H locs hP hD hS => ?_)
    refine lv_iload hx hb dL_law_693 (lv_at hl 1 rfl) ?_
    refine lv_icmp_eq (tgt := 700) hx hb dL_law_695 (by decide) (fun _ => ?_) (fun z => absurd (rfl) z)
    refine lv_iload hx hb dL_law_700 (lv_at hl 1 rfl) ?_
    refine lv_if_ne (tgt := 717) hx hb dL_law_702 (by decide) (fun _ => ?_) (fun z => absurd z hc)
    refine lv_goto (tgt := 1123) hx hb dL_law_717 (by decide) ?_
    refine W.widen (k := cells + 6) (n := slots + 170) (by omega) (by omega) ?_
    exact kk _ _ _ _ _ _ _ _ _ _ I.next hP hD hS (lv_sub hl [2, 3, 4, 5, 6] rfl)

set_option maxHeartbeats 4000000 in
set_option maxRecDepth 100000 in
theorem lw_op_pass {p : Program} {l : Launch} {e : Env} {s : State} {m : MethodId} {args : Array Value} {below : List Frame} {meth : Method} {c : Code} {A : Nat → Prop} {Z : State → Prop} {H0 H : Heap} {locs : List Loc} {ls : Array Slot} {D : va_G} {C : Nat → ClassId} {sb L o r q out i b N cells slots : Nat} {xs : Nat → Int32} {a : Nat → Nat} {f : Nat → Int64} {mn th : Int32} {K P M : Nat → Nat → Int32}
    (X : lw_cx p l s m args c A H0 D C sb L xs) (I : k_iv N mn K M b) (hb9 : b < 512) (hi : i + 5 ≤ L) (hL : L ≤ 2560) (hP : va_P D vwCl (lw_w C o r q th N mn M a K P out f) H) (hD : va_D A (lw_w C o r q th N mn M a K P out f)) (hS : va_S A H0 H locs) (hl : lv_has ls 9 [(0, .ref sb), (1, .ref (a 0)), (2, .ref o), (3, .ref out), (4, .int (nI i))]) (hc9 : cells + 10 ≤ 601024) (hs9 : slots + 200 ≤ 7293034)
    (kk : ∀ (N1 : Nat) (mn1 th1 : Int32) (K1 P1 M1 : Nat → Nat → Int32) (f1 : Nat → Int64) (H : Heap) (locs : List Loc) (ls : Array Slot), k_iv N1 mn1 K1 M1 (b + 1) → va_P D vwCl (lw_w C o r q th1 N1 mn1 M1 a K1 P1 out f1) H → va_D A (lw_w C o r q th1 N1 mn1 M1 a K1 P1 out f1) → va_S A H0 H locs → lv_has ls 9 [(0, .ref sb), (1, .ref (a 0)), (2, .ref o), (3, .ref out), (4, .int (nI i))] → W p l e room_1 s m args below meth c H locs (cells + 6) (slots + 170) Z (F0 m 1123 ls [])) : W p l e room_1 s m args below meth c H locs cells slots Z (F0 m 720 ls []) := by
  obtain ⟨hx, hb, hml, hts, hown, hG, hT, hX, hsb, hsA, hA, hlf⟩ := X
  have hK := hG.1
  have hN := I.1
  refine lv_aload_n hx hb dL_law_720 rfl (lv_at hl 1 rfl) ?_
  refine lv_aload_n hx hb dL_law_721 rfl (lv_at hl 0 rfl) ?_
  refine lv_iload hx hb dL_law_722 (lv_at hl 4 rfl) ?_
  refine lv_iconst (v := 1) hx hb dL_law_724 (by decide) ?_
  refine lv_iadd hx hb dL_law_725 ?_
  refine cu_top (x' := nI (i + 1)) (lw_ik i 1) ?_
  refine va_sld hx hb hX hsb hsA hS (lw_ix hi hL (by decide)) dL_law_726 ?_
  refine lv_topi (fun v1 ev1 => ?_)
  refine lv_aload_n hx hb dL_law_727 rfl (lv_at hl 3 rfl) ?_
  have sp := cu_sp.suf (X := (cu_mw C o r q th (nI N) mn M)) (w := (cu_cw C a (nI N) mn K P) ++ cu_ou C out f) (w' := (k_sel (k_oM v1) ((cu_cw C a (nI N) (mn + v1) (k_at N mn K v1.toNatClampNeg) P) ++ cu_ou C out (vp_updL f 0 ((k_calls N mn K v1.toNatClampNeg)).toInt64)) ((cu_cw C a (nI N) mn K P) ++ cu_ou C out f))) (k_sel_fst (by rw [List.map_append, List.map_append, cu_cw_fst]; rfl) rfl)
  refine cu_callI (vx_runSW (As := [.ref (a 0), .int v1, .ref out]) (rest := []) ⟨hx, hb, hml, hown, hts⟩ ((m_L_pass l hlf D C a N hN mn K P v1 out f) H.size) (vx_cwSW 3 hts gL_law_L_pass rfl rfl rfl (by decide +kernel) ⟨Nat.le_of_ble_eq_true rfl, Nat.le_of_ble_eq_true rfl⟩) (cu_preXS sp hG hP hD hT hS hA) rfl rfl hl.1 rfl (lv_room (Nat.le_of_ble_eq_true rfl)) dL_law_728 ⟨by show cells + 1 ≤ 601024; omega, by show slots + 6 ≤ 7293034; omega⟩) sp hP hD hS hA (fun H locs hP hD hS => ?_)
  refine cu_top (x' := k_cM v1) (k_hc_M v1) ?_
  refine lv_istore (lv' := [(5, .int (k_cM v1)), (0, .ref sb), (1, .ref (a 0)), (2, .ref o), (3, .ref out), (4, .int (nI i))]) hx hb dL_law_731 hl (by decide) rfl (fun ls hl => ?_)
  refine lv_aload_n hx hb dL_law_733 rfl (lv_at hl 3 rfl) ?_
  refine lv_aload_n hx hb dL_law_734 rfl (lv_at hl 1 rfl) ?_
  refine lv_iload hx hb dL_law_735 (lv_at hl 5 rfl) ?_
  refine lv_iconst (v := 1) hx hb dL_law_737 (by decide) ?_
  refine lv_iadd hx hb dL_law_738 ?_
  refine cu_top (x' := nI (i + 1)) (lw_ik i 1) ?_
  refine va_sld hx hb hX hsb hsA hS (lw_ix hi hL (by decide)) dL_law_739 ?_
  refine cu_top (x' := v1) ev1.symm ?_
  have sp := cu_sp.pre (w := (cu_mw C o r q th (nI N) mn M)) (w' := (cu_mw C o r q (k_cM v1) (nI N) (if k_cM v1 = 0 then (mn + v1) else mn) (if k_cM v1 = 0 then (k_at N mn M v1.toNatClampNeg) else M))) (Y := (k_sel (k_oM v1) ((cu_cw C a (nI N) (mn + v1) (k_at N mn K v1.toNatClampNeg) P) ++ cu_ou C out (vp_updL f 0 ((k_calls N mn K v1.toNatClampNeg)).toInt64)) ((cu_cw C a (nI N) mn K P) ++ cu_ou C out f))) cu_mw_fst
  refine cu_callI (va_runV (As := [.int v1]) (rest := []) ⟨hx, hb, hml, hown, hts⟩ ((m_X2_pass l D C o r q th N hN mn M v1 I.okM) H.size) (cwV 1 hts gL_law_X2_pass rfl rfl rfl (by decide +kernel) ⟨Nat.le_of_ble_eq_true rfl, Nat.le_of_ble_eq_true rfl⟩) (cu_preV (ci := 2) sp hG hP hD rfl rfl) rfl rfl hl.1 rfl (lv_room (Nat.le_of_ble_eq_true rfl)) dL_law_740 ⟨by show cells + 1 + 0 ≤ 601024; omega, by show slots + 6 + 0 ≤ 7293034; omega⟩) sp hP hD hS hA (fun H locs hP hD hS => ?_)
  refine lv_istore (lv' := [(6, .int (if k_cM v1 = 0 then k_sum (fun c => k_at N mn M v1.toNatClampNeg c 6) N - k_sum (fun c => M c 6) N else 0)), (5, .int (k_cM v1)), (0, .ref sb), (1, .ref (a 0)), (2, .ref o), (3, .ref out), (4, .int (nI i))]) hx hb dL_law_743 hl (by decide) rfl (fun ls hl => ?_)
  by_cases hc : k_cM v1 = 0
  · have ho : (k_oM v1) = none := k_hc_0 ((k_hc_M v1).trans hc)
    have q0 := k_cM_0 hc
    have hP : va_P D vwCl (lw_w C o r q 0 N (mn + v1) (k_at N mn M v1.toNatClampNeg) a (k_at N mn K v1.toNatClampNeg) P out (vp_updL f 0 ((k_calls N mn K v1.toNatClampNeg)).toInt64)) H := by
      rw [ho, if_pos hc, if_pos hc, hc] at hP
      exact hP
    have hD : va_D A (lw_w C o r q 0 N (mn + v1) (k_at N mn M v1.toNatClampNeg) a (k_at N mn K v1.toNatClampNeg) P out (vp_updL f 0 ((k_calls N mn K v1.toNatClampNeg)).toInt64)) := by
      rw [ho, if_pos hc, if_pos hc, hc] at hD
      exact hD
    have J := (by have j := I.pass (t := v1.toNatClampNeg) q0.1 (by omega); rw [q0.2] at j; exact j : k_iv N (mn + v1) (k_at N mn K v1.toNatClampNeg) (k_at N mn M v1.toNatClampNeg) (b + 1))
    refine lv_aload_n hx hb dL_law_745 rfl (lv_at hl 4 rfl) ?_
    have sp := cu_sp.pre (w := (cu_mw C o r q 0 (nI N) (mn + v1) (k_at N mn M v1.toNatClampNeg))) (w' := (cu_mw C o r q 0 (nI N) (mn + v1) (k_at N mn M v1.toNatClampNeg))) (Y := (cu_cw C a (nI N) (mn + v1) (k_at N mn K v1.toNatClampNeg) P ++ cu_ou C out (vp_updL f 0 ((k_calls N mn K v1.toNatClampNeg)).toInt64))) rfl
    refine cu_callI (va_runV (As := []) (rest := []) ⟨hx, hb, hml, hown, hts⟩ ((m_X2_thrown l D C o r q 0 N J.1 (mn + v1) (k_at N mn M v1.toNatClampNeg)) H.size) (cwV 0 hts gL_law_X2_thrown rfl rfl rfl (by decide +kernel) ⟨Nat.le_of_ble_eq_true rfl, Nat.le_of_ble_eq_true rfl⟩) (cu_preV (ci := 2) sp hG hP hD rfl rfl) rfl rfl hl.1 rfl (lv_room (Nat.le_of_ble_eq_true rfl)) dL_law_746 ⟨by show cells + 1 + 0 + 0 ≤ 601024; omega, by show slots + 6 + 0 + 0 ≤ 7293034; omega⟩) sp hP hD hS hA (fun H locs hP hD hS => ?_)
    refine lv_iload hx hb dL_law_749 (lv_at hl 1 rfl) ?_
    refine lv_icmp_eq (tgt := 756) hx hb dL_law_751 (by decide) (fun _ => ?_) (fun z => absurd (hc.symm) z)
    refine lv_iload hx hb dL_law_756 (lv_at hl 1 rfl) ?_
    refine lv_if_ne (tgt := 773) hx hb dL_law_758 (by decide) (fun z => absurd hc z) (fun _ => ?_)
    refine lv_aload_n hx hb dL_law_761 rfl (lv_at hl 5 rfl) ?_
    refine lv_iconst (v := 0) hx hb dL_law_762 (by decide) ?_
    refine va_lald (f := (vp_updL f 0 ((k_calls N mn K v1.toNatClampNeg)).toInt64)) hx hb hK hP 26 2 rfl rfl (vp_in_nI (n := 0) (by decide) (by decide)) dL_law_763 ?_
    refine W.eq (g2 := F0 m 764 ls [.long ((k_calls N mn K v1.toNatClampNeg)).toInt64]) rfl ?_
    refine lv_iload hx hb dL_law_764 (lv_at hl 0 rfl) ?_
    refine cu_top (x' := (k_calls N mn K v1.toNatClampNeg)) ((if_pos hc).trans ((k_pass_M _).trans (k_calls_eq I.2.2.1 _))) ?_
    refine lv_i2l (v := ((k_calls N mn K v1.toNatClampNeg)).toInt64) hx hb dL_law_766 rfl ?_
    refine W.lcmp hx hb dL_law_767 ?_
    refine lv_if_eq (tgt := 773) hx hb dL_law_768 (by decide) (fun _ => ?_) (fun z => absurd (lw_cmp _) z)
    refine lv_goto (tgt := 1123) hx hb dL_law_773 (by decide) ?_
    refine W.widen (k := cells + 6) (n := slots + 170) (by omega) (by omega) ?_
    exact kk _ _ _ _ _ _ _ _ _ _ J hP hD hS (lv_sub hl [2, 3, 4, 5, 6] rfl)
  · obtain ⟨E, ho⟩ := k_hc_n (fun z => hc ((k_hc_M v1).symm.trans z))
    have hP : va_P D vwCl (lw_w C o r q (k_cM v1) N mn M a K P out f) H := by
      rw [ho, if_neg hc, if_neg hc] at hP
      exact hP
    have hD : va_D A (lw_w C o r q (k_cM v1) N mn M a K P out f) := by
      rw [ho, if_neg hc, if_neg hc] at hD
      exact hD
    refine lv_aload_n hx hb dL_law_745 rfl (lv_at hl 4 rfl) ?_
    have sp := cu_sp.pre (w := (cu_mw C o r q (k_cM v1) (nI N) mn M)) (w' := (cu_mw C o r q (k_cM v1) (nI N) mn M)) (Y := (cu_cw C a (nI N) mn K P ++ cu_ou C out f)) rfl
    refine cu_callI (va_runV (As := []) (rest := []) ⟨hx, hb, hml, hown, hts⟩ ((m_X2_thrown l D C o r q (k_cM v1) N hN mn M) H.size) (cwV 0 hts gL_law_X2_thrown rfl rfl rfl (by decide +kernel) ⟨Nat.le_of_ble_eq_true rfl, Nat.le_of_ble_eq_true rfl⟩) (cu_preV (ci := 2) sp hG hP hD rfl rfl) rfl rfl hl.1 rfl (lv_room (Nat.le_of_ble_eq_true rfl)) dL_law_746 ⟨by show cells + 1 + 0 + 0 ≤ 601024; omega, by show slots + 6 + 0 + 0 ≤ 7293034; omega⟩) sp hP hD hS hA (fun H locs hP hD hS => ?_)
    refine lv_iload hx hb dL_law_749 (lv_at hl 1 rfl) ?_
    refine lv_icmp_eq (tgt := 756) hx hb dL_law_751 (by decide) (fun _ => ?_) (fun z => absurd (rfl) z)
    refine lv_iload hx hb dL_law_756 (lv_at hl 1 rfl) ?_
    refine lv_if_ne (tgt := 773) hx hb dL_law_758 (by decide) (fun _ => ?_) (fun z => absurd z hc)
    refine lv_goto (tgt := 1123) hx hb dL_law_773 (by decide) ?_
    refine W.widen (k := cells + 6) (n := slots + 170) (by omega) (by omega) ?_
    exact kk _ _ _ _ _ _ _ _ _ _ I.next hP hD hS (lv_sub hl [2, 3, 4, 5, 6] rfl)

set_option maxHeartbeats 4000000 in
set_option maxRecDepth 100000 in
theorem lw_op_next {p : Program} {l : Launch} {e : Env} {s : State} {m : MethodId} {args : Array Value} {below : List Frame} {meth : Method} {c : Code} {A : Nat → Prop} {Z : State → Prop} {H0 H : Heap} {locs : List Loc} {ls : Array Slot} {D : va_G} {C : Nat → ClassId} {sb L o r q out i b N cells slots : Nat} {xs : Nat → Int32} {a : Nat → Nat} {f : Nat → Int64} {mn th : Int32} {K P M : Nat → Nat → Int32}
    (X : lw_cx p l s m args c A H0 D C sb L xs) (I : k_iv N mn K M b) (hb9 : b < 512) (hi : i + 5 ≤ L) (hL : L ≤ 2560) (hP : va_P D vwCl (lw_w C o r q th N mn M a K P out f) H) (hD : va_D A (lw_w C o r q th N mn M a K P out f)) (hS : va_S A H0 H locs) (hl : lv_has ls 9 [(0, .ref sb), (1, .ref (a 0)), (2, .ref o), (3, .ref out), (4, .int (nI i))]) (hc9 : cells + 10 ≤ 601024) (hs9 : slots + 200 ≤ 7293034)
    (kk : ∀ (N1 : Nat) (mn1 th1 : Int32) (K1 P1 M1 : Nat → Nat → Int32) (f1 : Nat → Int64) (H : Heap) (locs : List Loc) (ls : Array Slot), k_iv N1 mn1 K1 M1 (b + 1) → va_P D vwCl (lw_w C o r q th1 N1 mn1 M1 a K1 P1 out f1) H → va_D A (lw_w C o r q th1 N1 mn1 M1 a K1 P1 out f1) → va_S A H0 H locs → lv_has ls 9 [(0, .ref sb), (1, .ref (a 0)), (2, .ref o), (3, .ref out), (4, .int (nI i))] → W p l e room_1 s m args below meth c H locs (cells + 6) (slots + 170) Z (F0 m 1123 ls [])) : W p l e room_1 s m args below meth c H locs cells slots Z (F0 m 776 ls []) := by
  obtain ⟨hx, hb, hml, hts, hown, hG, hT, hX, hsb, hsA, hA, hlf⟩ := X
  have hK := hG.1
  have hN := I.1
  refine lv_aload_n hx hb dL_law_776 rfl (lv_at hl 1 rfl) ?_
  refine lv_aload_n hx hb dL_law_777 rfl (lv_at hl 0 rfl) ?_
  refine lv_iload hx hb dL_law_778 (lv_at hl 4 rfl) ?_
  refine lv_iconst (v := 1) hx hb dL_law_780 (by decide) ?_
  refine lv_iadd hx hb dL_law_781 ?_
  refine cu_top (x' := nI (i + 1)) (lw_ik i 1) ?_
  refine va_sld hx hb hX hsb hsA hS (lw_ix hi hL (by decide)) dL_law_782 ?_
  refine lv_topi (fun v1 ev1 => ?_)
  refine lv_aload_n hx hb dL_law_783 rfl (lv_at hl 3 rfl) ?_
  have sp := cu_sp.suf (X := (cu_mw C o r q th (nI N) mn M)) (w := (cu_cw C a (nI N) mn K P) ++ cu_ou C out f) (w' := (k_sel (k_oC N v1) ((cu_cw C a (nI N) mn K (va_up P v1.toNatClampNeg (k_nextS mn (K v1.toNatClampNeg) 720 0))) ++ cu_ou C out (vp_updL f 0 ((k_next mn (K v1.toNatClampNeg))).toInt64)) ((cu_cw C a (nI N) mn K P) ++ cu_ou C out f))) (k_sel_fst (by rw [List.map_append, List.map_append, cu_cw_fst]; rfl) rfl)
  refine cu_callI (vx_runSW (As := [.ref (a 0), .int v1, .ref out]) (rest := []) ⟨hx, hb, hml, hown, hts⟩ ((m_L_next l hlf D C a N hN mn K P v1 I.h5 out f) H.size) (vx_cwSW 3 hts gL_law_L_next rfl rfl rfl (by decide +kernel) ⟨Nat.le_of_ble_eq_true rfl, Nat.le_of_ble_eq_true rfl⟩) (cu_preXS sp hG hP hD hT hS hA) rfl rfl hl.1 rfl (lv_room (Nat.le_of_ble_eq_true rfl)) dL_law_784 ⟨by show cells + 1 ≤ 601024; omega, by show slots + 6 ≤ 7293034; omega⟩) sp hP hD hS hA (fun H locs hP hD hS => ?_)
  refine cu_top (x' := k_c1 N v1) (k_hc_c hN v1) ?_
  refine lv_istore (lv' := [(5, .int (k_c1 N v1)), (0, .ref sb), (1, .ref (a 0)), (2, .ref o), (3, .ref out), (4, .int (nI i))]) hx hb dL_law_787 hl (by decide) rfl (fun ls hl => ?_)
  refine lv_aload_n hx hb dL_law_789 rfl (lv_at hl 3 rfl) ?_
  refine lv_aload_n hx hb dL_law_790 rfl (lv_at hl 1 rfl) ?_
  refine lv_iload hx hb dL_law_791 (lv_at hl 5 rfl) ?_
  refine lv_iconst (v := 1) hx hb dL_law_793 (by decide) ?_
  refine lv_iadd hx hb dL_law_794 ?_
  refine cu_top (x' := nI (i + 1)) (lw_ik i 1) ?_
  refine va_sld hx hb hX hsb hsA hS (lw_ix hi hL (by decide)) dL_law_795 ?_
  refine cu_top (x' := v1) ev1.symm ?_
  have sp := cu_sp.pre (w := (cu_mw C o r q th (nI N) mn M)) (w' := (cu_mw C o r q (k_c1 N v1) (nI N) mn M)) (Y := (k_sel (k_oC N v1) ((cu_cw C a (nI N) mn K (va_up P v1.toNatClampNeg (k_nextS mn (K v1.toNatClampNeg) 720 0))) ++ cu_ou C out (vp_updL f 0 ((k_next mn (K v1.toNatClampNeg))).toInt64)) ((cu_cw C a (nI N) mn K P) ++ cu_ou C out f))) cu_mw_fst
  refine cu_callI (va_runV (As := [.int v1]) (rest := []) ⟨hx, hb, hml, hown, hts⟩ ((m_X2_next l D C o r q th N hN mn M v1 I.okM) H.size) (cwV 1 hts gL_law_X2_next rfl rfl rfl (by decide +kernel) ⟨Nat.le_of_ble_eq_true rfl, Nat.le_of_ble_eq_true rfl⟩) (cu_preV (ci := 2) sp hG hP hD rfl rfl) rfl rfl hl.1 rfl (lv_room (Nat.le_of_ble_eq_true rfl)) dL_law_796 ⟨by show cells + 1 + 3 ≤ 601024; omega, by show slots + 6 + 143 ≤ 7293034; omega⟩) sp hP hD hS hA (fun H locs hP hD hS => ?_)
  refine lv_istore (lv' := [(6, .int (if k_c1 N v1 = 0 then (k_next mn (M v1.toNatClampNeg)) else 0)), (5, .int (k_c1 N v1)), (0, .ref sb), (1, .ref (a 0)), (2, .ref o), (3, .ref out), (4, .int (nI i))]) hx hb dL_law_799 hl (by decide) rfl (fun ls hl => ?_)
  by_cases hc : k_c1 N v1 = 0
  · have ho : (k_oC N v1) = none := k_hc_0 ((k_hc_c hN v1).trans hc)
    have q0 := k_c1_0 hN hc
    have hP : va_P D vwCl (lw_w C o r q 0 N mn M a K (va_up P v1.toNatClampNeg (k_nextS mn (K v1.toNatClampNeg) 720 0)) out (vp_updL f 0 ((k_next mn (K v1.toNatClampNeg))).toInt64)) H := by
      rw [ho, hc] at hP
      exact hP
    have hD : va_D A (lw_w C o r q 0 N mn M a K (va_up P v1.toNatClampNeg (k_nextS mn (K v1.toNatClampNeg) 720 0)) out (vp_updL f 0 ((k_next mn (K v1.toNatClampNeg))).toInt64)) := by
      rw [ho, hc] at hD
      exact hD
    have J := I.next
    refine lv_aload_n hx hb dL_law_801 rfl (lv_at hl 4 rfl) ?_
    have sp := cu_sp.pre (w := (cu_mw C o r q 0 (nI N) mn M)) (w' := (cu_mw C o r q 0 (nI N) mn M)) (Y := (cu_cw C a (nI N) mn K (va_up P v1.toNatClampNeg (k_nextS mn (K v1.toNatClampNeg) 720 0)) ++ cu_ou C out (vp_updL f 0 ((k_next mn (K v1.toNatClampNeg))).toInt64))) rfl
    refine cu_callI (va_runV (As := []) (rest := []) ⟨hx, hb, hml, hown, hts⟩ ((m_X2_thrown l D C o r q 0 N J.1 mn M) H.size) (cwV 0 hts gL_law_X2_thrown rfl rfl rfl (by decide +kernel) ⟨Nat.le_of_ble_eq_true rfl, Nat.le_of_ble_eq_true rfl⟩) (cu_preV (ci := 2) sp hG hP hD rfl rfl) rfl rfl hl.1 rfl (lv_room (Nat.le_of_ble_eq_true rfl)) dL_law_802 ⟨by show cells + 1 + 3 + 0 ≤ 601024; omega, by show slots + 6 + 143 + 0 ≤ 7293034; omega⟩) sp hP hD hS hA (fun H locs hP hD hS => ?_)
    refine lv_iload hx hb dL_law_805 (lv_at hl 1 rfl) ?_
    refine lv_icmp_eq (tgt := 812) hx hb dL_law_807 (by decide) (fun _ => ?_) (fun z => absurd (hc.symm) z)
    refine lv_iload hx hb dL_law_812 (lv_at hl 1 rfl) ?_
    refine lv_if_ne (tgt := 829) hx hb dL_law_814 (by decide) (fun z => absurd hc z) (fun _ => ?_)
    refine lv_aload_n hx hb dL_law_817 rfl (lv_at hl 5 rfl) ?_
    refine lv_iconst (v := 0) hx hb dL_law_818 (by decide) ?_
    refine va_lald (f := (vp_updL f 0 ((k_next mn (K v1.toNatClampNeg))).toInt64)) hx hb hK hP 26 2 rfl rfl (vp_in_nI (n := 0) (by decide) (by decide)) dL_law_819 ?_
    refine W.eq (g2 := F0 m 820 ls [.long ((k_next mn (K v1.toNatClampNeg))).toInt64]) rfl ?_
    refine lv_iload hx hb dL_law_820 (lv_at hl 0 rfl) ?_
    refine cu_top (x' := (k_next mn (K v1.toNatClampNeg))) ((if_pos hc).trans (by rw [I.2.2.1 _ q0])) ?_
    refine lv_i2l (v := ((k_next mn (K v1.toNatClampNeg))).toInt64) hx hb dL_law_822 rfl ?_
    refine W.lcmp hx hb dL_law_823 ?_
    refine lv_if_eq (tgt := 829) hx hb dL_law_824 (by decide) (fun _ => ?_) (fun z => absurd (lw_cmp _) z)
    refine lv_goto (tgt := 1123) hx hb dL_law_829 (by decide) ?_
    refine W.widen (k := cells + 6) (n := slots + 170) (by omega) (by omega) ?_
    exact kk _ _ _ _ _ _ _ _ _ _ J hP hD hS (lv_sub hl [2, 3, 4, 5, 6] rfl)
  · obtain ⟨E, ho⟩ := k_hc_n (fun z => hc ((k_hc_c hN v1).symm.trans z))
    have hP : va_P D vwCl (lw_w C o r q (k_c1 N v1) N mn M a K P out f) H := by
      rw [ho] at hP
      exact hP
    have hD : va_D A (lw_w C o r q (k_c1 N v1) N mn M a K P out f) := by
      rw [ho] at hD
      exact hD
    refine lv_aload_n hx hb dL_law_801 rfl (lv_at hl 4 rfl) ?_
    have sp := cu_sp.pre (w := (cu_mw C o r q (k_c1 N v1) (nI N) mn M)) (w' := (cu_mw C o r q (k_c1 N v1) (nI N) mn M)) (Y := (cu_cw C a (nI N) mn K P ++ cu_ou C out f)) rfl
    refine cu_callI (va_runV (As := []) (rest := []) ⟨hx, hb, hml, hown, hts⟩ ((m_X2_thrown l D C o r q (k_c1 N v1) N hN mn M) H.size) (cwV 0 hts gL_law_X2_thrown rfl rfl rfl (by decide +kernel) ⟨Nat.le_of_ble_eq_true rfl, Nat.le_of_ble_eq_true rfl⟩) (cu_preV (ci := 2) sp hG hP hD rfl rfl) rfl rfl hl.1 rfl (lv_room (Nat.le_of_ble_eq_true rfl)) dL_law_802 ⟨by show cells + 1 + 3 + 0 ≤ 601024; omega, by show slots + 6 + 143 + 0 ≤ 7293034; omega⟩) sp hP hD hS hA (fun H locs hP hD hS => ?_)
    refine lv_iload hx hb dL_law_805 (lv_at hl 1 rfl) ?_
    refine lv_icmp_eq (tgt := 812) hx hb dL_law_807 (by decide) (fun _ => ?_) (fun z => absurd (rfl) z)
    refine lv_iload hx hb dL_law_812 (lv_at hl 1 rfl) ?_
    refine lv_if_ne (tgt := 829) hx hb dL_law_814 (by decide) (fun _ => ?_) (fun z => absurd z hc)
    refine lv_goto (tgt := 1123) hx hb dL_law_829 (by decide) ?_
    refine W.widen (k := cells + 6) (n := slots + 170) (by omega) (by omega) ?_
    exact kk _ _ _ _ _ _ _ _ _ _ I.next hP hD hS (lv_sub hl [2, 3, 4, 5, 6] rfl)

set_option maxHeartbeats 4000000 in
set_option maxRecDepth 100000 in
theorem lw_op_stands {p : Program} {l : Launch} {e : Env} {s : State} {m : MethodId} {args : Array Value} {below : List Frame} {meth : Method} {c : Code} {A : Nat → Prop} {Z : State → Prop} {H0 H : Heap} {locs : List Loc} {ls : Array Slot} {D : va_G} {C : Nat → ClassId} {sb L o r q out i b N cells slots : Nat} {xs : Nat → Int32} {a : Nat → Nat} {f : Nat → Int64} {mn th : Int32} {K P M : Nat → Nat → Int32}
    (X : lw_cx p l s m args c A H0 D C sb L xs) (I : k_iv N mn K M b) (hb9 : b < 512) (hi : i + 5 ≤ L) (hL : L ≤ 2560) (hP : va_P D vwCl (lw_w C o r q th N mn M a K P out f) H) (hD : va_D A (lw_w C o r q th N mn M a K P out f)) (hS : va_S A H0 H locs) (hl : lv_has ls 9 [(0, .ref sb), (1, .ref (a 0)), (2, .ref o), (3, .ref out), (4, .int (nI i))]) (hc9 : cells + 10 ≤ 601024) (hs9 : slots + 200 ≤ 7293034)
    (kk : ∀ (N1 : Nat) (mn1 th1 : Int32) (K1 P1 M1 : Nat → Nat → Int32) (f1 : Nat → Int64) (H : Heap) (locs : List Loc) (ls : Array Slot), k_iv N1 mn1 K1 M1 (b + 1) → va_P D vwCl (lw_w C o r q th1 N1 mn1 M1 a K1 P1 out f1) H → va_D A (lw_w C o r q th1 N1 mn1 M1 a K1 P1 out f1) → va_S A H0 H locs → lv_has ls 9 [(0, .ref sb), (1, .ref (a 0)), (2, .ref o), (3, .ref out), (4, .int (nI i))] → W p l e room_1 s m args below meth c H locs (cells + 6) (slots + 170) Z (F0 m 1123 ls [])) : W p l e room_1 s m args below meth c H locs cells slots Z (F0 m 832 ls []) := by
  obtain ⟨hx, hb, hml, hts, hown, hG, hT, hX, hsb, hsA, hA, hlf⟩ := X
  have hK := hG.1
  have hN := I.1
  refine lv_aload_n hx hb dL_law_832 rfl (lv_at hl 1 rfl) ?_
  refine lv_aload_n hx hb dL_law_833 rfl (lv_at hl 0 rfl) ?_
  refine lv_iload hx hb dL_law_834 (lv_at hl 4 rfl) ?_
  refine lv_iconst (v := 1) hx hb dL_law_836 (by decide) ?_
  refine lv_iadd hx hb dL_law_837 ?_
  refine cu_top (x' := nI (i + 1)) (lw_ik i 1) ?_
  refine va_sld hx hb hX hsb hsA hS (lw_ix hi hL (by decide)) dL_law_838 ?_
  refine lv_topi (fun v1 ev1 => ?_)
  refine lv_aload_n hx hb dL_law_839 rfl (lv_at hl 3 rfl) ?_
  have sp := cu_sp.suf (X := (cu_mw C o r q th (nI N) mn M)) (w := (cu_cw C a (nI N) mn K P) ++ cu_ou C out f) (w' := (k_sel (k_oC N v1) ((cu_cw C a (nI N) mn K P) ++ cu_ou C out (vp_updL f 0 ((k_stand (K v1.toNatClampNeg))).toInt64)) ((cu_cw C a (nI N) mn K P) ++ cu_ou C out f))) (k_sel_fst rfl rfl)
  refine cu_callI (vx_runSW (As := [.ref (a 0), .int v1, .ref out]) (rest := []) ⟨hx, hb, hml, hown, hts⟩ ((m_L_stands l hlf D C a N hN mn K P v1 out f) H.size) (vx_cwSW 3 hts gL_law_L_stands rfl rfl rfl (by decide +kernel) ⟨Nat.le_of_ble_eq_true rfl, Nat.le_of_ble_eq_true rfl⟩) (cu_preXS sp hG hP hD hT hS hA) rfl rfl hl.1 rfl (lv_room (Nat.le_of_ble_eq_true rfl)) dL_law_840 ⟨by show cells + 1 ≤ 601024; omega, by show slots + 6 ≤ 7293034; omega⟩) sp hP hD hS hA (fun H locs hP hD hS => ?_)
  refine cu_top (x' := k_c1 N v1) (k_hc_c hN v1) ?_
  refine lv_istore (lv' := [(5, .int (k_c1 N v1)), (0, .ref sb), (1, .ref (a 0)), (2, .ref o), (3, .ref out), (4, .int (nI i))]) hx hb dL_law_843 hl (by decide) rfl (fun ls hl => ?_)
  refine lv_aload_n hx hb dL_law_845 rfl (lv_at hl 3 rfl) ?_
  refine lv_aload_n hx hb dL_law_846 rfl (lv_at hl 1 rfl) ?_
  refine lv_iload hx hb dL_law_847 (lv_at hl 5 rfl) ?_
  refine lv_iconst (v := 1) hx hb dL_law_849 (by decide) ?_
  refine lv_iadd hx hb dL_law_850 ?_
  refine cu_top (x' := nI (i + 1)) (lw_ik i 1) ?_
  refine va_sld hx hb hX hsb hsA hS (lw_ix hi hL (by decide)) dL_law_851 ?_
  refine cu_top (x' := v1) ev1.symm ?_
  have sp := cu_sp.pre (w := (cu_mw C o r q th (nI N) mn M)) (w' := (cu_mw C o r q (k_c1 N v1) (nI N) mn M)) (Y := (k_sel (k_oC N v1) ((cu_cw C a (nI N) mn K P) ++ cu_ou C out (vp_updL f 0 ((k_stand (K v1.toNatClampNeg))).toInt64)) ((cu_cw C a (nI N) mn K P) ++ cu_ou C out f))) cu_mw_fst
  refine cu_callI (va_runV (As := [.int v1]) (rest := []) ⟨hx, hb, hml, hown, hts⟩ ((m_X2_stands l D C o r q th N hN mn M v1) H.size) (cwV 1 hts gL_law_X2_stands rfl rfl rfl (by decide +kernel) ⟨Nat.le_of_ble_eq_true rfl, Nat.le_of_ble_eq_true rfl⟩) (cu_preV (ci := 2) sp hG hP hD rfl rfl) rfl rfl hl.1 rfl (lv_room (Nat.le_of_ble_eq_true rfl)) dL_law_852 ⟨by show cells + 1 + 0 ≤ 601024; omega, by show slots + 6 + 0 ≤ 7293034; omega⟩) sp hP hD hS hA (fun H locs hP hD hS => ?_)
  refine lv_istore (lv' := [(6, .int (if k_c1 N v1 = 0 then (k_stand (M v1.toNatClampNeg)) else 0)), (5, .int (k_c1 N v1)), (0, .ref sb), (1, .ref (a 0)), (2, .ref o), (3, .ref out), (4, .int (nI i))]) hx hb dL_law_855 hl (by decide) rfl (fun ls hl => ?_)
  by_cases hc : k_c1 N v1 = 0
  · have ho : (k_oC N v1) = none := k_hc_0 ((k_hc_c hN v1).trans hc)
    have q0 := k_c1_0 hN hc
    have hP : va_P D vwCl (lw_w C o r q 0 N mn M a K P out (vp_updL f 0 ((k_stand (K v1.toNatClampNeg))).toInt64)) H := by
      rw [ho, hc] at hP
      exact hP
    have hD : va_D A (lw_w C o r q 0 N mn M a K P out (vp_updL f 0 ((k_stand (K v1.toNatClampNeg))).toInt64)) := by
      rw [ho, hc] at hD
      exact hD
    have J := I.next
    refine lv_aload_n hx hb dL_law_857 rfl (lv_at hl 4 rfl) ?_
    have sp := cu_sp.pre (w := (cu_mw C o r q 0 (nI N) mn M)) (w' := (cu_mw C o r q 0 (nI N) mn M)) (Y := (cu_cw C a (nI N) mn K P ++ cu_ou C out (vp_updL f 0 ((k_stand (K v1.toNatClampNeg))).toInt64))) rfl
    refine cu_callI (va_runV (As := []) (rest := []) ⟨hx, hb, hml, hown, hts⟩ ((m_X2_thrown l D C o r q 0 N J.1 mn M) H.size) (cwV 0 hts gL_law_X2_thrown rfl rfl rfl (by decide +kernel) ⟨Nat.le_of_ble_eq_true rfl, Nat.le_of_ble_eq_true rfl⟩) (cu_preV (ci := 2) sp hG hP hD rfl rfl) rfl rfl hl.1 rfl (lv_room (Nat.le_of_ble_eq_true rfl)) dL_law_858 ⟨by show cells + 1 + 0 + 0 ≤ 601024; omega, by show slots + 6 + 0 + 0 ≤ 7293034; omega⟩) sp hP hD hS hA (fun H locs hP hD hS => ?_)
    refine lv_iload hx hb dL_law_861 (lv_at hl 1 rfl) ?_
    refine lv_icmp_eq (tgt := 868) hx hb dL_law_863 (by decide) (fun _ => ?_) (fun z => absurd (hc.symm) z)
    refine lv_iload hx hb dL_law_868 (lv_at hl 1 rfl) ?_
    refine lv_if_ne (tgt := 885) hx hb dL_law_870 (by decide) (fun z => absurd hc z) (fun _ => ?_)
    refine lv_aload_n hx hb dL_law_873 rfl (lv_at hl 5 rfl) ?_
    refine lv_iconst (v := 0) hx hb dL_law_874 (by decide) ?_
    refine va_lald (f := (vp_updL f 0 ((k_stand (K v1.toNatClampNeg))).toInt64)) hx hb hK hP 26 2 rfl rfl (vp_in_nI (n := 0) (by decide) (by decide)) dL_law_875 ?_
    refine W.eq (g2 := F0 m 876 ls [.long ((k_stand (K v1.toNatClampNeg))).toInt64]) rfl ?_
    refine lv_iload hx hb dL_law_876 (lv_at hl 0 rfl) ?_
    refine cu_top (x' := (k_stand (K v1.toNatClampNeg))) ((if_pos hc).trans (by rw [I.2.2.1 _ q0])) ?_
    refine lv_i2l (v := ((k_stand (K v1.toNatClampNeg))).toInt64) hx hb dL_law_878 rfl ?_
    refine W.lcmp hx hb dL_law_879 ?_
    refine lv_if_eq (tgt := 885) hx hb dL_law_880 (by decide) (fun _ => ?_) (fun z => absurd (lw_cmp _) z)
    refine lv_goto (tgt := 1123) hx hb dL_law_885 (by decide) ?_
    refine W.widen (k := cells + 6) (n := slots + 170) (by omega) (by omega) ?_
    exact kk _ _ _ _ _ _ _ _ _ _ J hP hD hS (lv_sub hl [2, 3, 4, 5, 6] rfl)
  · obtain ⟨E, ho⟩ := k_hc_n (fun z => hc ((k_hc_c hN v1).symm.trans z))
    have hP : va_P D vwCl (lw_w C o r q (k_c1 N v1) N mn M a K P out f) H := by
      rw [ho] at hP
      exact hP
    have hD : va_D A (lw_w C o r q (k_c1 N v1) N mn M a K P out f) := by
      rw [ho] at hD
      exact hD
    refine lv_aload_n hx hb dL_law_857 rfl (lv_at hl 4 rfl) ?_
    have sp := cu_sp.pre (w := (cu_mw C o r q (k_c1 N v1) (nI N) mn M)) (w' := (cu_mw C o r q (k_c1 N v1) (nI N) mn M)) (Y := (cu_cw C a (nI N) mn K P ++ cu_ou C out f)) rfl
    refine cu_callI (va_runV (As := []) (rest := []) ⟨hx, hb, hml, hown, hts⟩ ((m_X2_thrown l D C o r q (k_c1 N v1) N hN mn M) H.size) (cwV 0 hts gL_law_X2_thrown rfl rfl rfl (by decide +kernel) ⟨Nat.le_of_ble_eq_true rfl, Nat.le_of_ble_eq_true rfl⟩) (cu_preV (ci := 2) sp hG hP hD rfl rfl) rfl rfl hl.1 rfl (lv_room (Nat.le_of_ble_eq_true rfl)) dL_law_858 ⟨by show cells + 1 + 0 + 0 ≤ 601024; omega, by show slots + 6 + 0 + 0 ≤ 7293034; omega⟩) sp hP hD hS hA (fun H locs hP hD hS => ?_)
    refine lv_iload hx hb dL_law_861 (lv_at hl 1 rfl) ?_
    refine lv_icmp_eq (tgt := 868) hx hb dL_law_863 (by decide) (fun _ => ?_) (fun z => absurd (rfl) z)
    refine lv_iload hx hb dL_law_868 (lv_at hl 1 rfl) ?_
    refine lv_if_ne (tgt := 885) hx hb dL_law_870 (by decide) (fun _ => ?_) (fun z => absurd z hc)
    refine lv_goto (tgt := 1123) hx hb dL_law_885 (by decide) ?_
    refine W.widen (k := cells + 6) (n := slots + 170) (by omega) (by omega) ?_
    exact kk _ _ _ _ _ _ _ _ _ _ I.next hP hD hS (lv_sub hl [2, 3, 4, 5, 6] rfl)

set_option maxHeartbeats 4000000 in
set_option maxRecDepth 100000 in
theorem lw_op_loudest {p : Program} {l : Launch} {e : Env} {s : State} {m : MethodId} {args : Array Value} {below : List Frame} {meth : Method} {c : Code} {A : Nat → Prop} {Z : State → Prop} {H0 H : Heap} {locs : List Loc} {ls : Array Slot} {D : va_G} {C : Nat → ClassId} {sb L o r q out i b N cells slots : Nat} {xs : Nat → Int32} {a : Nat → Nat} {f : Nat → Int64} {mn th : Int32} {K P M : Nat → Nat → Int32}
    (X : lw_cx p l s m args c A H0 D C sb L xs) (I : k_iv N mn K M b) (hb9 : b < 512) (hi : i + 5 ≤ L) (hL : L ≤ 2560) (hP : va_P D vwCl (lw_w C o r q th N mn M a K P out f) H) (hD : va_D A (lw_w C o r q th N mn M a K P out f)) (hS : va_S A H0 H locs) (hl : lv_has ls 9 [(0, .ref sb), (1, .ref (a 0)), (2, .ref o), (3, .ref out), (4, .int (nI i))]) (hc9 : cells + 10 ≤ 601024) (hs9 : slots + 200 ≤ 7293034)
    (kk : ∀ (N1 : Nat) (mn1 th1 : Int32) (K1 P1 M1 : Nat → Nat → Int32) (f1 : Nat → Int64) (H : Heap) (locs : List Loc) (ls : Array Slot), k_iv N1 mn1 K1 M1 (b + 1) → va_P D vwCl (lw_w C o r q th1 N1 mn1 M1 a K1 P1 out f1) H → va_D A (lw_w C o r q th1 N1 mn1 M1 a K1 P1 out f1) → va_S A H0 H locs → lv_has ls 9 [(0, .ref sb), (1, .ref (a 0)), (2, .ref o), (3, .ref out), (4, .int (nI i))] → W p l e room_1 s m args below meth c H locs (cells + 6) (slots + 170) Z (F0 m 1123 ls [])) : W p l e room_1 s m args below meth c H locs cells slots Z (F0 m 888 ls []) := by
  obtain ⟨hx, hb, hml, hts, hown, hG, hT, hX, hsb, hsA, hA, hlf⟩ := X
  have hK := hG.1
  have hN := I.1
  refine lv_aload_n hx hb dL_law_888 rfl (lv_at hl 1 rfl) ?_
  refine lv_aload_n hx hb dL_law_889 rfl (lv_at hl 0 rfl) ?_
  refine lv_iload hx hb dL_law_890 (lv_at hl 4 rfl) ?_
  refine lv_iconst (v := 1) hx hb dL_law_892 (by decide) ?_
  refine lv_iadd hx hb dL_law_893 ?_
  refine cu_top (x' := nI (i + 1)) (lw_ik i 1) ?_
  refine va_sld hx hb hX hsb hsA hS (lw_ix hi hL (by decide)) dL_law_894 ?_
  refine lv_topi (fun v1 ev1 => ?_)
  refine lv_aload_n hx hb dL_law_895 rfl (lv_at hl 3 rfl) ?_
  have sp := cu_sp.suf (X := (cu_mw C o r q th (nI N) mn M)) (w := (cu_cw C a (nI N) mn K P) ++ cu_ou C out f) (w' := (k_sel (k_oM v1) ((cu_cw C a (nI N) mn K (k_at N mn (k_cpy K P N) v1.toNatClampNeg)) ++ cu_ou C out (vp_updL f 0 ((k_loud N mn (k_cpy K P N) v1.toNatClampNeg)).toInt64)) ((cu_cw C a (nI N) mn K P) ++ cu_ou C out f))) (k_sel_fst (by rw [List.map_append, List.map_append, cu_cw_fst]; rfl) rfl)
  refine cu_callI (vx_runSW (As := [.ref (a 0), .int v1, .ref out]) (rest := []) ⟨hx, hb, hml, hown, hts⟩ ((m_L_loudest l hlf D C a N hN mn K P v1 I.h5 out f) H.size) (vx_cwSW 3 hts gL_law_L_loudest rfl rfl rfl (by decide +kernel) ⟨Nat.le_of_ble_eq_true rfl, Nat.le_of_ble_eq_true rfl⟩) (cu_preXS sp hG hP hD hT hS hA) rfl rfl hl.1 rfl (lv_room (Nat.le_of_ble_eq_true rfl)) dL_law_896 ⟨by show cells + 1 ≤ 601024; omega, by show slots + 6 ≤ 7293034; omega⟩) sp hP hD hS hA (fun H locs hP hD hS => ?_)
  refine cu_top (x' := k_cM v1) (k_hc_M v1) ?_
  refine lv_istore (lv' := [(5, .int (k_cM v1)), (0, .ref sb), (1, .ref (a 0)), (2, .ref o), (3, .ref out), (4, .int (nI i))]) hx hb dL_law_899 hl (by decide) rfl (fun ls hl => ?_)
  refine lv_aload_n hx hb dL_law_901 rfl (lv_at hl 3 rfl) ?_
  refine lv_aload_n hx hb dL_law_902 rfl (lv_at hl 1 rfl) ?_
  refine lv_iload hx hb dL_law_903 (lv_at hl 5 rfl) ?_
  refine lv_iconst (v := 1) hx hb dL_law_905 (by decide) ?_
  refine lv_iadd hx hb dL_law_906 ?_
  refine cu_top (x' := nI (i + 1)) (lw_ik i 1) ?_
  refine va_sld hx hb hX hsb hsA hS (lw_ix hi hL (by decide)) dL_law_907 ?_
  refine cu_top (x' := v1) ev1.symm ?_
  have sp := cu_sp.pre (w := (cu_mw C o r q th (nI N) mn M)) (w' := (cu_mw C o r q (k_cM v1) (nI N) mn M)) (Y := (k_sel (k_oM v1) ((cu_cw C a (nI N) mn K (k_at N mn (k_cpy K P N) v1.toNatClampNeg)) ++ cu_ou C out (vp_updL f 0 ((k_loud N mn (k_cpy K P N) v1.toNatClampNeg)).toInt64)) ((cu_cw C a (nI N) mn K P) ++ cu_ou C out f))) cu_mw_fst
  refine cu_callI (va_runV (As := [.int v1]) (rest := []) ⟨hx, hb, hml, hown, hts⟩ ((m_X2_loudest l D C o r q th N hN mn M v1 I.okM) H.size) (cwV 1 hts gL_law_X2_loudest rfl rfl rfl (by decide +kernel) ⟨Nat.le_of_ble_eq_true rfl, Nat.le_of_ble_eq_true rfl⟩) (cu_preV (ci := 2) sp hG hP hD rfl rfl) rfl rfl hl.1 rfl (lv_room (Nat.le_of_ble_eq_true rfl)) dL_law_908 ⟨by show cells + 1 + 3 ≤ 601024; omega, by show slots + 6 + 143 ≤ 7293034; omega⟩) sp hP hD hS hA (fun H locs hP hD hS => ?_)
  refine lv_istore (lv' := [(6, .int (if k_cM v1 = 0 then k_loud N mn M v1.toNatClampNeg else 0)), (5, .int (k_cM v1)), (0, .ref sb), (1, .ref (a 0)), (2, .ref o), (3, .ref out), (4, .int (nI i))]) hx hb dL_law_911 hl (by decide) rfl (fun ls hl => ?_)
  by_cases hc : k_cM v1 = 0
  · have ho : (k_oM v1) = none := k_hc_0 ((k_hc_M v1).trans hc)
    have hP : va_P D vwCl (lw_w C o r q 0 N mn M a K (k_at N mn (k_cpy K P N) v1.toNatClampNeg) out (vp_updL f 0 ((k_loud N mn (k_cpy K P N) v1.toNatClampNeg)).toInt64)) H := by
      rw [ho, hc] at hP
      exact hP
    have hD : va_D A (lw_w C o r q 0 N mn M a K (k_at N mn (k_cpy K P N) v1.toNatClampNeg) out (vp_updL f 0 ((k_loud N mn (k_cpy K P N) v1.toNatClampNeg)).toInt64)) := by
      rw [ho, hc] at hD
      exact hD
    have J := I.next
    refine lv_aload_n hx hb dL_law_913 rfl (lv_at hl 4 rfl) ?_
    have sp := cu_sp.pre (w := (cu_mw C o r q 0 (nI N) mn M)) (w' := (cu_mw C o r q 0 (nI N) mn M)) (Y := (cu_cw C a (nI N) mn K (k_at N mn (k_cpy K P N) v1.toNatClampNeg) ++ cu_ou C out (vp_updL f 0 ((k_loud N mn (k_cpy K P N) v1.toNatClampNeg)).toInt64))) rfl
    refine cu_callI (va_runV (As := []) (rest := []) ⟨hx, hb, hml, hown, hts⟩ ((m_X2_thrown l D C o r q 0 N J.1 mn M) H.size) (cwV 0 hts gL_law_X2_thrown rfl rfl rfl (by decide +kernel) ⟨Nat.le_of_ble_eq_true rfl, Nat.le_of_ble_eq_true rfl⟩) (cu_preV (ci := 2) sp hG hP hD rfl rfl) rfl rfl hl.1 rfl (lv_room (Nat.le_of_ble_eq_true rfl)) dL_law_914 ⟨by show cells + 1 + 3 + 0 ≤ 601024; omega, by show slots + 6 + 143 + 0 ≤ 7293034; omega⟩) sp hP hD hS hA (fun H locs hP hD hS => ?_)
    refine lv_iload hx hb dL_law_917 (lv_at hl 1 rfl) ?_
    refine lv_icmp_eq (tgt := 924) hx hb dL_law_919 (by decide) (fun _ => ?_) (fun z => absurd (hc.symm) z)
    refine lv_iload hx hb dL_law_924 (lv_at hl 1 rfl) ?_
    refine lv_if_ne (tgt := 941) hx hb dL_law_926 (by decide) (fun z => absurd hc z) (fun _ => ?_)
    refine lv_aload_n hx hb dL_law_929 rfl (lv_at hl 5 rfl) ?_
    refine lv_iconst (v := 0) hx hb dL_law_930 (by decide) ?_
    refine va_lald (f := (vp_updL f 0 ((k_loud N mn (k_cpy K P N) v1.toNatClampNeg)).toInt64)) hx hb hK hP 26 2 rfl rfl (vp_in_nI (n := 0) (by decide) (by decide)) dL_law_931 ?_
    refine W.eq (g2 := F0 m 932 ls [.long ((k_loud N mn (k_cpy K P N) v1.toNatClampNeg)).toInt64]) rfl ?_
    refine lv_iload hx hb dL_law_932 (lv_at hl 0 rfl) ?_
    refine cu_top (x' := (k_loud N mn (k_cpy K P N) v1.toNatClampNeg)) ((if_pos hc).trans ((k_loud_eq I.2.2.1 _).trans (k_loud_eq k_cpy_eq _).symm)) ?_
    refine lv_i2l (v := ((k_loud N mn (k_cpy K P N) v1.toNatClampNeg)).toInt64) hx hb dL_law_934 rfl ?_
    refine W.lcmp hx hb dL_law_935 ?_
    refine lv_if_eq (tgt := 941) hx hb dL_law_936 (by decide) (fun _ => ?_) (fun z => absurd (lw_cmp _) z)
    refine lv_goto (tgt := 1123) hx hb dL_law_941 (by decide) ?_
    refine W.widen (k := cells + 6) (n := slots + 170) (by omega) (by omega) ?_
    exact kk _ _ _ _ _ _ _ _ _ _ J hP hD hS (lv_sub hl [2, 3, 4, 5, 6] rfl)
  · obtain ⟨E, ho⟩ := k_hc_n (fun z => hc ((k_hc_M v1).symm.trans z))
    have hP : va_P D vwCl (lw_w C o r q (k_cM v1) N mn M a K P out f) H := by
      rw [ho] at hP
      exact hP
    have hD : va_D A (lw_w C o r q (k_cM v1) N mn M a K P out f) := by
      rw [ho] at hD
      exact hD
    refine lv_aload_n hx hb dL_law_913 rfl (lv_at hl 4 rfl) ?_
    have sp := cu_sp.pre (w := (cu_mw C o r q (k_cM v1) (nI N) mn M)) (w' := (cu_mw C o r q (k_cM v1) (nI N) mn M)) (Y := (cu_cw C a (nI N) mn K P ++ cu_ou C out f)) rfl
    refine cu_callI (va_runV (As := []) (rest := []) ⟨hx, hb, hml, hown, hts⟩ ((m_X2_thrown l D C o r q (k_cM v1) N hN mn M) H.size) (cwV 0 hts gL_law_X2_thrown rfl rfl rfl (by decide +kernel) ⟨Nat.le_of_ble_eq_true rfl, Nat.le_of_ble_eq_true rfl⟩) (cu_preV (ci := 2) sp hG hP hD rfl rfl) rfl rfl hl.1 rfl (lv_room (Nat.le_of_ble_eq_true rfl)) dL_law_914 ⟨by show cells + 1 + 3 + 0 ≤ 601024; omega, by show slots + 6 + 143 + 0 ≤ 7293034; omega⟩) sp hP hD hS hA (fun H locs hP hD hS => ?_)
    refine lv_iload hx hb dL_law_917 (lv_at hl 1 rfl) ?_
    refine lv_icmp_eq (tgt := 924) hx hb dL_law_919 (by decide) (fun _ => ?_) (fun z => absurd (rfl) z)
    refine lv_iload hx hb dL_law_924 (lv_at hl 1 rfl) ?_
    refine lv_if_ne (tgt := 941) hx hb dL_law_926 (by decide) (fun _ => ?_) (fun z => absurd z hc)
    refine lv_goto (tgt := 1123) hx hb dL_law_941 (by decide) ?_
    refine W.widen (k := cells + 6) (n := slots + 170) (by omega) (by omega) ?_
    exact kk _ _ _ _ _ _ _ _ _ _ I.next hP hD hS (lv_sub hl [2, 3, 4, 5, 6] rfl)

set_option maxHeartbeats 4000000 in
set_option maxRecDepth 100000 in
theorem lw_op_foresee {p : Program} {l : Launch} {e : Env} {s : State} {m : MethodId} {args : Array Value} {below : List Frame} {meth : Method} {c : Code} {A : Nat → Prop} {Z : State → Prop} {H0 H : Heap} {locs : List Loc} {ls : Array Slot} {D : va_G} {C : Nat → ClassId} {sb L o r q out i b N cells slots : Nat} {xs : Nat → Int32} {a : Nat → Nat} {f : Nat → Int64} {mn th : Int32} {K P M : Nat → Nat → Int32}
    (X : lw_cx p l s m args c A H0 D C sb L xs) (I : k_iv N mn K M b) (hb9 : b < 512) (hi : i + 5 ≤ L) (hL : L ≤ 2560) (hP : va_P D vwCl (lw_w C o r q th N mn M a K P out f) H) (hD : va_D A (lw_w C o r q th N mn M a K P out f)) (hS : va_S A H0 H locs) (hl : lv_has ls 9 [(0, .ref sb), (1, .ref (a 0)), (2, .ref o), (3, .ref out), (4, .int (nI i))]) (hc9 : cells + 10 ≤ 601024) (hs9 : slots + 200 ≤ 7293034)
    (kk : ∀ (N1 : Nat) (mn1 th1 : Int32) (K1 P1 M1 : Nat → Nat → Int32) (f1 : Nat → Int64) (H : Heap) (locs : List Loc) (ls : Array Slot), k_iv N1 mn1 K1 M1 (b + 1) → va_P D vwCl (lw_w C o r q th1 N1 mn1 M1 a K1 P1 out f1) H → va_D A (lw_w C o r q th1 N1 mn1 M1 a K1 P1 out f1) → va_S A H0 H locs → lv_has ls 9 [(0, .ref sb), (1, .ref (a 0)), (2, .ref o), (3, .ref out), (4, .int (nI i))] → W p l e room_1 s m args below meth c H locs (cells + 6) (slots + 170) Z (F0 m 1123 ls [])) : W p l e room_1 s m args below meth c H locs cells slots Z (F0 m 944 ls []) := by
  obtain ⟨hx, hb, hml, hts, hown, hG, hT, hX, hsb, hsA, hA, hlf⟩ := X
  have hK := hG.1
  have hN := I.1
  refine lv_aload_n hx hb dL_law_944 rfl (lv_at hl 1 rfl) ?_
  refine lv_aload_n hx hb dL_law_945 rfl (lv_at hl 0 rfl) ?_
  refine lv_iload hx hb dL_law_946 (lv_at hl 4 rfl) ?_
  refine lv_iconst (v := 1) hx hb dL_law_948 (by decide) ?_
  refine lv_iadd hx hb dL_law_949 ?_
  refine cu_top (x' := nI (i + 1)) (lw_ik i 1) ?_
  refine va_sld hx hb hX hsb hsA hS (lw_ix hi hL (by decide)) dL_law_950 ?_
  refine lv_topi (fun v1 ev1 => ?_)
  refine lv_aload_n hx hb dL_law_951 rfl (lv_at hl 0 rfl) ?_
  refine lv_iload hx hb dL_law_952 (lv_at hl 4 rfl) ?_
  refine lv_iconst (v := 2) hx hb dL_law_954 (by decide) ?_
  refine lv_iadd hx hb dL_law_955 ?_
  refine cu_top (x' := nI (i + 2)) (lw_ik i 2) ?_
  refine va_sld hx hb hX hsb hsA hS (lw_ix hi hL (by decide)) dL_law_956 ?_
  refine lv_topi (fun v2 ev2 => ?_)
  refine lv_aload_n hx hb dL_law_957 rfl (lv_at hl 3 rfl) ?_
  have sp := cu_sp.suf (X := (cu_mw C o r q th (nI N) mn M)) (w := (cu_cw C a (nI N) mn K P) ++ cu_ou C out f) (w' := (k_sel ((k_oM v1).or (k_oF v2)) ((cu_cw C a (nI N) mn K (k_at N mn (k_cpy K P N) v1.toNatClampNeg)) ++ cu_ou C out (vp_updL f 0 ((k_fore N mn K (k_cpy K P N) v1.toNatClampNeg v2)).toInt64)) ((cu_cw C a (nI N) mn K P) ++ cu_ou C out f))) (k_sel_fst (by rw [List.map_append, List.map_append, cu_cw_fst]; rfl) rfl)
  refine cu_callI (vx_runSW (As := [.ref (a 0), .int v1, .int v2, .ref out]) (rest := []) ⟨hx, hb, hml, hown, hts⟩ ((m_L_foresee l hlf D C a N hN mn K P v1 v2 I.h5 out f) H.size) (vx_cwSW 4 hts gL_law_L_foresee rfl rfl rfl (by decide +kernel) ⟨Nat.le_of_ble_eq_true rfl, Nat.le_of_ble_eq_true rfl⟩) (cu_preXS sp hG hP hD hT hS hA) rfl rfl hl.1 rfl (lv_room (Nat.le_of_ble_eq_true rfl)) dL_law_958 ⟨by show cells + 2 ≤ 601024; omega, by show slots + 12 ≤ 7293034; omega⟩) sp hP hD hS hA (fun H locs hP hD hS => ?_)
  refine cu_top (x' := k_cF v1 v2) (k_hc_F v1 v2) ?_
  refine lv_istore (lv' := [(5, .int (k_cF v1 v2)), (0, .ref sb), (1, .ref (a 0)), (2, .ref o), (3, .ref out), (4, .int (nI i))]) hx hb dL_law_961 hl (by decide) rfl (fun ls hl => ?_)
  refine lv_aload_n hx hb dL_law_963 rfl (lv_at hl 3 rfl) ?_
  refine lv_aload_n hx hb dL_law_964 rfl (lv_at hl 1 rfl) ?_
  refine lv_iload hx hb dL_law_965 (lv_at hl 5 rfl) ?_
  refine lv_iconst (v := 1) hx hb dL_law_967 (by decide) ?_
  refine lv_iadd hx hb dL_law_968 ?_
  refine cu_top (x' := nI (i + 1)) (lw_ik i 1) ?_
  refine va_sld hx hb hX hsb hsA hS (lw_ix hi hL (by decide)) dL_law_969 ?_
  refine cu_top (x' := v1) ev1.symm ?_
  refine lv_aload_n hx hb dL_law_970 rfl (lv_at hl 1 rfl) ?_
  refine lv_iload hx hb dL_law_971 (lv_at hl 5 rfl) ?_
  refine lv_iconst (v := 2) hx hb dL_law_973 (by decide) ?_
  refine lv_iadd hx hb dL_law_974 ?_
  refine cu_top (x' := nI (i + 2)) (lw_ik i 2) ?_
  refine va_sld hx hb hX hsb hsA hS (lw_ix hi hL (by decide)) dL_law_975 ?_
  refine cu_top (x' := v2) ev2.symm ?_
  have sp := cu_sp.pre (w := (cu_mw C o r q th (nI N) mn M)) (w' := (cu_mw C o r q (k_cF v1 v2) (nI N) mn M)) (Y := (k_sel ((k_oM v1).or (k_oF v2)) ((cu_cw C a (nI N) mn K (k_at N mn (k_cpy K P N) v1.toNatClampNeg)) ++ cu_ou C out (vp_updL f 0 ((k_fore N mn K (k_cpy K P N) v1.toNatClampNeg v2)).toInt64)) ((cu_cw C a (nI N) mn K P) ++ cu_ou C out f))) cu_mw_fst
  refine cu_callI (va_runV (As := [.int v1, .int v2]) (rest := []) ⟨hx, hb, hml, hown, hts⟩ ((m_X2_foresee l D C o r q th N hN mn M v1 v2 I.okM I.2.2.2.2.1 (lw_m2 I hb9)) H.size) (cwV 2 hts gL_law_X2_foresee rfl rfl rfl (by decide +kernel) ⟨Nat.le_of_ble_eq_true rfl, Nat.le_of_ble_eq_true rfl⟩) (cu_preV (ci := 2) sp hG hP hD rfl rfl) rfl rfl hl.1 rfl (lv_room (Nat.le_of_ble_eq_true rfl)) dL_law_976 ⟨by show cells + 2 + 3 ≤ 601024; omega, by show slots + 12 + 143 ≤ 7293034; omega⟩) sp hP hD hS hA (fun H locs hP hD hS => ?_)
  refine lv_istore (lv' := [(6, .int (if k_cF v1 v2 = 0 then k_foreM N mn M v1.toNatClampNeg v2 else 0)), (5, .int (k_cF v1 v2)), (0, .ref sb), (1, .ref (a 0)), (2, .ref o), (3, .ref out), (4, .int (nI i))]) hx hb dL_law_979 hl (by decide) rfl (fun ls hl => ?_)
  by_cases hc : k_cF v1 v2 = 0
  · have ho : ((k_oM v1).or (k_oF v2)) = none := k_hc_0 ((k_hc_F v1 v2).trans hc)
    have hP : va_P D vwCl (lw_w C o r q 0 N mn M a K (k_at N mn (k_cpy K P N) v1.toNatClampNeg) out (vp_updL f 0 ((k_fore N mn K (k_cpy K P N) v1.toNatClampNeg v2)).toInt64)) H := by
      rw [ho, hc] at hP
      exact hP
    have hD : va_D A (lw_w C o r q 0 N mn M a K (k_at N mn (k_cpy K P N) v1.toNatClampNeg) out (vp_updL f 0 ((k_fore N mn K (k_cpy K P N) v1.toNatClampNeg v2)).toInt64)) := by
      rw [ho, hc] at hD
      exact hD
    have J := I.next
    refine lv_aload_n hx hb dL_law_981 rfl (lv_at hl 4 rfl) ?_
    have sp := cu_sp.pre (w := (cu_mw C o r q 0 (nI N) mn M)) (w' := (cu_mw C o r q 0 (nI N) mn M)) (Y := (cu_cw C a (nI N) mn K (k_at N mn (k_cpy K P N) v1.toNatClampNeg) ++ cu_ou C out (vp_updL f 0 ((k_fore N mn K (k_cpy K P N) v1.toNatClampNeg v2)).toInt64))) rfl
    refine cu_callI (va_runV (As := []) (rest := []) ⟨hx, hb, hml, hown, hts⟩ ((m_X2_thrown l D C o r q 0 N J.1 mn M) H.size) (cwV 0 hts gL_law_X2_thrown rfl rfl rfl (by decide +kernel) ⟨Nat.le_of_ble_eq_true rfl, Nat.le_of_ble_eq_true rfl⟩) (cu_preV (ci := 2) sp hG hP hD rfl rfl) rfl rfl hl.1 rfl (lv_room (Nat.le_of_ble_eq_true rfl)) dL_law_982 ⟨by show cells + 2 + 3 + 0 ≤ 601024; omega, by show slots + 12 + 143 + 0 ≤ 7293034; omega⟩) sp hP hD hS hA (fun H locs hP hD hS => ?_)
    refine lv_iload hx hb dL_law_985 (lv_at hl 1 rfl) ?_
    refine lv_icmp_eq (tgt := 992) hx hb dL_law_987 (by decide) (fun _ => ?_) (fun z => absurd (hc.symm) z)
    refine lv_iload hx hb dL_law_992 (lv_at hl 1 rfl) ?_
    refine lv_if_ne (tgt := 1009) hx hb dL_law_994 (by decide) (fun z => absurd hc z) (fun _ => ?_)
    refine lv_aload_n hx hb dL_law_997 rfl (lv_at hl 5 rfl) ?_
    refine lv_iconst (v := 0) hx hb dL_law_998 (by decide) ?_
    refine va_lald (f := (vp_updL f 0 ((k_fore N mn K (k_cpy K P N) v1.toNatClampNeg v2)).toInt64)) hx hb hK hP 26 2 rfl rfl (vp_in_nI (n := 0) (by decide) (by decide)) dL_law_999 ?_
    refine W.eq (g2 := F0 m 1000 ls [.long ((k_fore N mn K (k_cpy K P N) v1.toNatClampNeg v2)).toInt64]) rfl ?_
    refine lv_iload hx hb dL_law_1000 (lv_at hl 0 rfl) ?_
    refine cu_top (x' := (k_fore N mn K (k_cpy K P N) v1.toNatClampNeg v2)) ((if_pos hc).trans (k_fore_M k_cpy_eq I.2.2.1 _ _).symm) ?_
    refine lv_i2l (v := ((k_fore N mn K (k_cpy K P N) v1.toNatClampNeg v2)).toInt64) hx hb dL_law_1002 rfl ?_
    refine W.lcmp hx hb dL_law_1003 ?_
    refine lv_if_eq (tgt := 1009) hx hb dL_law_1004 (by decide) (fun _ => ?_) (fun z => absurd (lw_cmp _) z)
    refine lv_goto (tgt := 1123) hx hb dL_law_1009 (by decide) ?_
    refine W.widen (k := cells + 6) (n := slots + 170) (by omega) (by omega) ?_
    exact kk _ _ _ _ _ _ _ _ _ _ J hP hD hS (lv_sub hl [2, 3, 4, 5, 6] rfl)
  · obtain ⟨E, ho⟩ := k_hc_n (fun z => hc ((k_hc_F v1 v2).symm.trans z))
    have hP : va_P D vwCl (lw_w C o r q (k_cF v1 v2) N mn M a K P out f) H := by
      rw [ho] at hP
      exact hP
    have hD : va_D A (lw_w C o r q (k_cF v1 v2) N mn M a K P out f) := by
      rw [ho] at hD
      exact hD
    refine lv_aload_n hx hb dL_law_981 rfl (lv_at hl 4 rfl) ?_
    have sp := cu_sp.pre (w := (cu_mw C o r q (k_cF v1 v2) (nI N) mn M)) (w' := (cu_mw C o r q (k_cF v1 v2) (nI N) mn M)) (Y := (cu_cw C a (nI N) mn K P ++ cu_ou C out f)) rfl
    refine cu_callI (va_runV (As := []) (rest := []) ⟨hx, hb, hml, hown, hts⟩ ((m_X2_thrown l D C o r q (k_cF v1 v2) N hN mn M) H.size) (cwV 0 hts gL_law_X2_thrown rfl rfl rfl (by decide +kernel) ⟨Nat.le_of_ble_eq_true rfl, Nat.le_of_ble_eq_true rfl⟩) (cu_preV (ci := 2) sp hG hP hD rfl rfl) rfl rfl hl.1 rfl (lv_room (Nat.le_of_ble_eq_true rfl)) dL_law_982 ⟨by show cells + 2 + 3 + 0 ≤ 601024; omega, by show slots + 12 + 143 + 0 ≤ 7293034; omega⟩) sp hP hD hS hA (fun H locs hP hD hS => ?_)
    refine lv_iload hx hb dL_law_985 (lv_at hl 1 rfl) ?_
    refine lv_icmp_eq (tgt := 992) hx hb dL_law_987 (by decide) (fun _ => ?_) (fun z => absurd (rfl) z)
    refine lv_iload hx hb dL_law_992 (lv_at hl 1 rfl) ?_
    refine lv_if_ne (tgt := 1009) hx hb dL_law_994 (by decide) (fun _ => ?_) (fun z => absurd z hc)
    refine lv_goto (tgt := 1123) hx hb dL_law_1009 (by decide) ?_
    refine W.widen (k := cells + 6) (n := slots + 170) (by omega) (by omega) ?_
    exact kk _ _ _ _ _ _ _ _ _ _ I.next hP hD hS (lv_sub hl [2, 3, 4, 5, 6] rfl)

set_option maxHeartbeats 4000000 in
set_option maxRecDepth 100000 in
theorem lw_op_advise {p : Program} {l : Launch} {e : Env} {s : State} {m : MethodId} {args : Array Value} {below : List Frame} {meth : Method} {c : Code} {A : Nat → Prop} {Z : State → Prop} {H0 H : Heap} {locs : List Loc} {ls : Array Slot} {D : va_G} {C : Nat → ClassId} {sb L o r q out i b N cells slots : Nat} {xs : Nat → Int32} {a : Nat → Nat} {f : Nat → Int64} {mn th : Int32} {K P M : Nat → Nat → Int32}
    (X : lw_cx p l s m args c A H0 D C sb L xs) (I : k_iv N mn K M b) (hb9 : b < 512) (hi : i + 5 ≤ L) (hL : L ≤ 2560) (hP : va_P D vwCl (lw_w C o r q th N mn M a K P out f) H) (hD : va_D A (lw_w C o r q th N mn M a K P out f)) (hS : va_S A H0 H locs) (hl : lv_has ls 9 [(0, .ref sb), (1, .ref (a 0)), (2, .ref o), (3, .ref out), (4, .int (nI i))]) (hc9 : cells + 10 ≤ 601024) (hs9 : slots + 200 ≤ 7293034)
    (kk : ∀ (N1 : Nat) (mn1 th1 : Int32) (K1 P1 M1 : Nat → Nat → Int32) (f1 : Nat → Int64) (H : Heap) (locs : List Loc) (ls : Array Slot), k_iv N1 mn1 K1 M1 (b + 1) → va_P D vwCl (lw_w C o r q th1 N1 mn1 M1 a K1 P1 out f1) H → va_D A (lw_w C o r q th1 N1 mn1 M1 a K1 P1 out f1) → va_S A H0 H locs → lv_has ls 9 [(0, .ref sb), (1, .ref (a 0)), (2, .ref o), (3, .ref out), (4, .int (nI i))] → W p l e room_1 s m args below meth c H locs (cells + 6) (slots + 170) Z (F0 m 1123 ls [])) : W p l e room_1 s m args below meth c H locs cells slots Z (F0 m 1012 ls []) := by
  obtain ⟨hx, hb, hml, hts, hown, hG, hT, hX, hsb, hsA, hA, hlf⟩ := X
  have hK := hG.1
  have hN := I.1
  refine lv_aload_n hx hb dL_law_1012 rfl (lv_at hl 1 rfl) ?_
  refine lv_aload_n hx hb dL_law_1013 rfl (lv_at hl 0 rfl) ?_
  refine lv_iload hx hb dL_law_1014 (lv_at hl 4 rfl) ?_
  refine lv_iconst (v := 1) hx hb dL_law_1016 (by decide) ?_
  refine lv_iadd hx hb dL_law_1017 ?_
  refine cu_top (x' := nI (i + 1)) (lw_ik i 1) ?_
  refine va_sld hx hb hX hsb hsA hS (lw_ix hi hL (by decide)) dL_law_1018 ?_
  refine lv_topi (fun v1 ev1 => ?_)
  refine lv_aload_n hx hb dL_law_1019 rfl (lv_at hl 3 rfl) ?_
  have sp := cu_sp.suf (X := (cu_mw C o r q th (nI N) mn M)) (w := (cu_cw C a (nI N) mn K P) ++ cu_ou C out f) (w' := (k_sel (k_oC N v1) ((cu_cw C a (nI N) mn K P) ++ cu_ou C out (vp_updL f 0 ((k_true (K v1.toNatClampNeg))).toInt64)) ((cu_cw C a (nI N) mn K P) ++ cu_ou C out f))) (k_sel_fst rfl rfl)
  refine cu_callI (vx_runSW (As := [.ref (a 0), .int v1, .ref out]) (rest := []) ⟨hx, hb, hml, hown, hts⟩ ((m_L_advise l hlf D C a N hN mn K P v1 out f) H.size) (vx_cwSW 3 hts gL_law_L_advise rfl rfl rfl (by decide +kernel) ⟨Nat.le_of_ble_eq_true rfl, Nat.le_of_ble_eq_true rfl⟩) (cu_preXS sp hG hP hD hT hS hA) rfl rfl hl.1 rfl (lv_room (Nat.le_of_ble_eq_true rfl)) dL_law_1020 ⟨by show cells + 1 ≤ 601024; omega, by show slots + 6 ≤ 7293034; omega⟩) sp hP hD hS hA (fun H locs hP hD hS => ?_)
  refine cu_top (x' := k_c1 N v1) (k_hc_c hN v1) ?_
  refine lv_istore (lv' := [(5, .int (k_c1 N v1)), (0, .ref sb), (1, .ref (a 0)), (2, .ref o), (3, .ref out), (4, .int (nI i))]) hx hb dL_law_1023 hl (by decide) rfl (fun ls hl => ?_)
  refine lv_aload_n hx hb dL_law_1025 rfl (lv_at hl 3 rfl) ?_
  refine lv_aload_n hx hb dL_law_1026 rfl (lv_at hl 1 rfl) ?_
  refine lv_iload hx hb dL_law_1027 (lv_at hl 5 rfl) ?_
  refine lv_iconst (v := 1) hx hb dL_law_1029 (by decide) ?_
  refine lv_iadd hx hb dL_law_1030 ?_
  refine cu_top (x' := nI (i + 1)) (lw_ik i 1) ?_
  refine va_sld hx hb hX hsb hsA hS (lw_ix hi hL (by decide)) dL_law_1031 ?_
  refine cu_top (x' := v1) ev1.symm ?_
  have sp := cu_sp.pre (w := (cu_mw C o r q th (nI N) mn M)) (w' := (cu_mw C o r q (k_c1 N v1) (nI N) mn M)) (Y := (k_sel (k_oC N v1) ((cu_cw C a (nI N) mn K P) ++ cu_ou C out (vp_updL f 0 ((k_true (K v1.toNatClampNeg))).toInt64)) ((cu_cw C a (nI N) mn K P) ++ cu_ou C out f))) cu_mw_fst
  refine cu_callI (va_runV (As := [.int v1]) (rest := []) ⟨hx, hb, hml, hown, hts⟩ ((m_X2_advise l D C o r q th N hN mn M v1 I.okM) H.size) (cwV 1 hts gL_law_X2_advise rfl rfl rfl (by decide +kernel) ⟨Nat.le_of_ble_eq_true rfl, Nat.le_of_ble_eq_true rfl⟩) (cu_preV (ci := 2) sp hG hP hD rfl rfl) rfl rfl hl.1 rfl (lv_room (Nat.le_of_ble_eq_true rfl)) dL_law_1032 ⟨by show cells + 1 + 0 ≤ 601024; omega, by show slots + 6 + 0 ≤ 7293034; omega⟩) sp hP hD hS hA (fun H locs hP hD hS => ?_)
  refine lv_istore (lv' := [(6, .int (if k_c1 N v1 = 0 then (k_true (M v1.toNatClampNeg)) else 0)), (5, .int (k_c1 N v1)), (0, .ref sb), (1, .ref (a 0)), (2, .ref o), (3, .ref out), (4, .int (nI i))]) hx hb dL_law_1035 hl (by decide) rfl (fun ls hl => ?_)
  by_cases hc : k_c1 N v1 = 0
  · have ho : (k_oC N v1) = none := k_hc_0 ((k_hc_c hN v1).trans hc)
    have q0 := k_c1_0 hN hc
    have hP : va_P D vwCl (lw_w C o r q 0 N mn M a K P out (vp_updL f 0 ((k_true (K v1.toNatClampNeg))).toInt64)) H := by
      rw [ho, hc] at hP
      exact hP
    have hD : va_D A (lw_w C o r q 0 N mn M a K P out (vp_updL f 0 ((k_true (K v1.toNatClampNeg))).toInt64)) := by
      rw [ho, hc] at hD
      exact hD
    have J := I.next
    refine lv_aload_n hx hb dL_law_1037 rfl (lv_at hl 4 rfl) ?_
    have sp := cu_sp.pre (w := (cu_mw C o r q 0 (nI N) mn M)) (w' := (cu_mw C o r q 0 (nI N) mn M)) (Y := (cu_cw C a (nI N) mn K P ++ cu_ou C out (vp_updL f 0 ((k_true (K v1.toNatClampNeg))).toInt64))) rfl
    refine cu_callI (va_runV (As := []) (rest := []) ⟨hx, hb, hml, hown, hts⟩ ((m_X2_thrown l D C o r q 0 N J.1 mn M) H.size) (cwV 0 hts gL_law_X2_thrown rfl rfl rfl (by decide +kernel) ⟨Nat.le_of_ble_eq_true rfl, Nat.le_of_ble_eq_true rfl⟩) (cu_preV (ci := 2) sp hG hP hD rfl rfl) rfl rfl hl.1 rfl (lv_room (Nat.le_of_ble_eq_true rfl)) dL_law_1038 ⟨by show cells + 1 + 0 + 0 ≤ 601024; omega, by show slots + 6 + 0 + 0 ≤ 7293034; omega⟩) sp hP hD hS hA (fun H locs hP hD hS => ?_)
    refine lv_iload hx hb dL_law_1041 (lv_at hl 1 rfl) ?_
    refine lv_icmp_eq (tgt := 1048) hx hb dL_law_1043 (by decide) (fun _ => ?_) (fun z => absurd (hc.symm) z)
    refine lv_iload hx hb dL_law_1048 (lv_at hl 1 rfl) ?_
    refine lv_if_ne (tgt := 1065) hx hb dL_law_1050 (by decide) (fun z => absurd hc z) (fun _ => ?_)
    refine lv_aload_n hx hb dL_law_1053 rfl (lv_at hl 5 rfl) ?_
    refine lv_iconst (v := 0) hx hb dL_law_1054 (by decide) ?_
    refine va_lald (f := (vp_updL f 0 ((k_true (K v1.toNatClampNeg))).toInt64)) hx hb hK hP 26 2 rfl rfl (vp_in_nI (n := 0) (by decide) (by decide)) dL_law_1055 ?_
    refine W.eq (g2 := F0 m 1056 ls [.long ((k_true (K v1.toNatClampNeg))).toInt64]) rfl ?_
    refine lv_iload hx hb dL_law_1056 (lv_at hl 0 rfl) ?_
    refine cu_top (x' := (k_true (K v1.toNatClampNeg))) ((if_pos hc).trans (by rw [I.2.2.1 _ q0])) ?_
    refine lv_i2l (v := ((k_true (K v1.toNatClampNeg))).toInt64) hx hb dL_law_1058 rfl ?_
    refine W.lcmp hx hb dL_law_1059 ?_
    refine lv_if_eq (tgt := 1065) hx hb dL_law_1060 (by decide) (fun _ => ?_) (fun z => absurd (lw_cmp _) z)
    refine lv_goto (tgt := 1123) hx hb dL_law_1065 (by decide) ?_
    refine W.widen (k := cells + 6) (n := slots + 170) (by omega) (by omega) ?_
    exact kk _ _ _ _ _ _ _ _ _ _ J hP hD hS (lv_sub hl [2, 3, 4, 5, 6] rfl)
  · obtain ⟨E, ho⟩ := k_hc_n (fun z => hc ((k_hc_c hN v1).symm.trans z))
    have hP : va_P D vwCl (lw_w C o r q (k_c1 N v1) N mn M a K P out f) H := by
      rw [ho] at hP
      exact hP
    have hD : va_D A (lw_w C o r q (k_c1 N v1) N mn M a K P out f) := by
      rw [ho] at hD
      exact hD
    refine lv_aload_n hx hb dL_law_1037 rfl (lv_at hl 4 rfl) ?_
    have sp := cu_sp.pre (w := (cu_mw C o r q (k_c1 N v1) (nI N) mn M)) (w' := (cu_mw C o r q (k_c1 N v1) (nI N) mn M)) (Y := (cu_cw C a (nI N) mn K P ++ cu_ou C out f)) rfl
    refine cu_callI (va_runV (As := []) (rest := []) ⟨hx, hb, hml, hown, hts⟩ ((m_X2_thrown l D C o r q (k_c1 N v1) N hN mn M) H.size) (cwV 0 hts gL_law_X2_thrown rfl rfl rfl (by decide +kernel) ⟨Nat.le_of_ble_eq_true rfl, Nat.le_of_ble_eq_true rfl⟩) (cu_preV (ci := 2) sp hG hP hD rfl rfl) rfl rfl hl.1 rfl (lv_room (Nat.le_of_ble_eq_true rfl)) dL_law_1038 ⟨by show cells + 1 + 0 + 0 ≤ 601024; omega, by show slots + 6 + 0 + 0 ≤ 7293034; omega⟩) sp hP hD hS hA (fun H locs hP hD hS => ?_)
    refine lv_iload hx hb dL_law_1041 (lv_at hl 1 rfl) ?_
    refine lv_icmp_eq (tgt := 1048) hx hb dL_law_1043 (by decide) (fun _ => ?_) (fun z => absurd (rfl) z)
    refine lv_iload hx hb dL_law_1048 (lv_at hl 1 rfl) ?_
    refine lv_if_ne (tgt := 1065) hx hb dL_law_1050 (by decide) (fun _ => ?_) (fun z => absurd z hc)
    refine lv_goto (tgt := 1123) hx hb dL_law_1065 (by decide) ?_
    refine W.widen (k := cells + 6) (n := slots + 170) (by omega) (by omega) ?_
    exact kk _ _ _ _ _ _ _ _ _ _ I.next hP hD hS (lv_sub hl [2, 3, 4, 5, 6] rfl)
