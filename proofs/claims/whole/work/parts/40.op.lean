/-! THE LAW'S CASES: each from its first instruction to the step of the loop -/
def lw_cx (p : Program) (l : Launch) (s : State) (m : MethodId) (args : Array Value) (c : Code) (A : Nat → Prop) (H0 : Heap) (D : va_G) (C : Nat → ClassId) (sb L : Nat) (xs : Nat → Int32) : Prop :=
  p.tables.exec = Jvm.exec ∧ c.code = cL_law ∧ c.maxLocals = 9 ∧ (∀ w ∈ wsL_law, w.before args s = true) ∧ s.vm.findClass RL = some m.cls ∧ cu_G D C s ∧ cu_T A s H0 ∧ va_X sb L xs s H0 ∧ sb < H0.size ∧ ¬ A sb ∧ (∀ q : Nat, H0.size ≤ q → A q) ∧ l.stackTraces = false
abbrev lw_w (C : Nat → ClassId) (o r q : Nat) (th : Int32) (N : Nat) (mn : Int32) (M : Nat → Nat → Int32) (a : Nat → Nat) (K P : Nat → Nat → Int32) (out : Nat) (f : Nat → Int64) : va_W := cu_mw C o r q th (nI N) mn M ++ (cu_cw C a (nI N) mn K P ++ cu_ou C out f)
theorem lw_cmp (x : Int64) : lg_cmp x x = 0 := by simp [lg_cmp]
theorem lw_ix {i k L : Nat} (h : i + 5 ≤ L) (hL : L ≤ 2560) (hk : k < 5) : vp_in (nI (i + k)) L := vp_in_nI (by omega) (by omega)
theorem lw_ik (i k : Nat) : nI i + nI k = nI (i + k) := by rw [nI_add]
theorem k_cA_0 {N : Nat} {v : Int32} (hN : N ≤ 10) (h : k_cA N v = 0) : ¬ k_isW v 0 719 = 0 ∧ N < 10 := by
  unfold k_cA at h
  by_cases h1 : k_isW v 0 719 = 0
  · rw [if_pos h1] at h; exact absurd h (by decide)
  · rw [if_neg h1] at h
    refine ⟨h1, ?_⟩
    rcases Nat.lt_or_ge N 10 with h2 | h2
    · exact h2
    · rw [if_pos (by rw [show N = 10 by omega]; rfl)] at h
      exact absurd h (by decide)

set_option maxHeartbeats 4000000 in
set_option maxRecDepth 100000 in
theorem lw_op_come {p : Program} {l : Launch} {e : Env} {s : State} {m : MethodId} {args : Array Value} {below : List Frame} {meth : Method} {c : Code} {A : Nat → Prop} {Z : State → Prop} {H0 H : Heap} {locs : List Loc} {ls : Array Slot} {D : va_G} {C : Nat → ClassId} {sb L o r q out i b N cells slots : Nat} {xs : Nat → Int32} {a : Nat → Nat} {f : Nat → Int64} {mn th : Int32} {K P M : Nat → Nat → Int32}
    (X : lw_cx p l s m args c A H0 D C sb L xs) (I : k_iv N mn K M b) (hb9 : b < 512) (hi : i + 5 ≤ L) (hL : L ≤ 2560) (hP : va_P D vwCl (lw_w C o r q th N mn M a K P out f) H) (hD : va_D A (lw_w C o r q th N mn M a K P out f)) (hS : va_S A H0 H locs) (hl : lv_has ls 9 [(0, .ref sb), (1, .ref (a 0)), (2, .ref o), (3, .ref out), (4, .int (nI i))]) (hc9 : cells + 10 ≤ 601024) (hs9 : slots + 200 ≤ 7293034)
    (kk : ∀ (N1 : Nat) (mn1 th1 : Int32) (K1 P1 M1 : Nat → Nat → Int32) (f1 : Nat → Int64) (H : Heap) (locs : List Loc) (ls : Array Slot), k_iv N1 mn1 K1 M1 (b + 1) → va_P D vwCl (lw_w C o r q th1 N1 mn1 M1 a K1 P1 out f1) H → va_D A (lw_w C o r q th1 N1 mn1 M1 a K1 P1 out f1) → va_S A H0 H locs → lv_has ls 9 [(0, .ref sb), (1, .ref (a 0)), (2, .ref o), (3, .ref out), (4, .int (nI i))] → W p l e room_1 s m args below meth c H locs (cells + 6) (slots + 170) Z (F0 m 1123 ls [])) : W p l e room_1 s m args below meth c H locs cells slots Z (F0 m 120 ls []) := by
  obtain ⟨hx, hb, hml, hts, hown, hG, hT, hX, hsb, hsA, hA, hlf⟩ := X
  have hK := hG.1
  have hN := I.1
  refine lv_aload_n hx hb dL_law_120 rfl (lv_at hl 1 rfl) ?_
  refine lv_aload_n hx hb dL_law_121 rfl (lv_at hl 0 rfl) ?_
  refine lv_iload hx hb dL_law_122 (lv_at hl 4 rfl) ?_
  refine lv_iconst (v := 1) hx hb dL_law_124 (by decide) ?_
  refine lv_iadd hx hb dL_law_125 ?_
  refine cu_top (x' := nI (i + 1)) (lw_ik i 1) ?_
  refine va_sld hx hb hX hsb hsA hS (lw_ix hi hL (by decide)) dL_law_126 ?_
  refine lv_topi (fun v1 ev1 => ?_)
  refine lv_aload_n hx hb dL_law_127 rfl (lv_at hl 3 rfl) ?_
  have sp := cu_sp.suf (X := (cu_mw C o r q th (nI N) mn M)) (w := (cu_cw C a (nI N) mn K P) ++ cu_ou C out f) (w' := (k_sel ((k_oT v1).or (k_oN N)) ((cu_cw C a (nI (N + 1)) mn (va_up K N (upd (upd (K N) 0 v1) 1 0)) P) ++ cu_ou C out (vp_updL f 0 ((nI N)).toInt64)) ((cu_cw C a (nI N) mn K P) ++ cu_ou C out f))) (k_sel_fst (by rw [List.map_append, List.map_append, cu_cw_fst]; rfl) rfl)
  refine cu_callI (vx_runSW (As := [.ref (a 0), .int v1, .ref out]) (rest := []) ⟨hx, hb, hml, hown, hts⟩ ((m_L_come l hlf D C a N hN mn K P v1 out f) H.size) (vx_cwSW 3 hts gL_law_L_come rfl rfl rfl (by decide +kernel) ⟨Nat.le_of_ble_eq_true rfl, Nat.le_of_ble_eq_true rfl⟩) (cu_preXS sp hG hP hD hT hS hA) rfl rfl hl.1 rfl (lv_room (Nat.le_of_ble_eq_true rfl)) dL_law_128 ⟨by show cells + 2 ≤ 601024; omega, by show slots + 12 ≤ 7293034; omega⟩) sp hP hD hS hA (fun H locs hP hD hS => ?_)
  refine cu_top (x' := k_cA N v1) (k_hc_A hN v1) ?_
  refine lv_istore (lv' := [(5, .int (k_cA N v1)), (0, .ref sb), (1, .ref (a 0)), (2, .ref o), (3, .ref out), (4, .int (nI i))]) hx hb dL_law_131 hl (by decide) rfl (fun ls hl => ?_)
  refine lv_aload_n hx hb dL_law_133 rfl (lv_at hl 3 rfl) ?_
  refine lv_aload_n hx hb dL_law_134 rfl (lv_at hl 1 rfl) ?_
  refine lv_iload hx hb dL_law_135 (lv_at hl 5 rfl) ?_
  refine lv_iconst (v := 1) hx hb dL_law_137 (by decide) ?_
  refine lv_iadd hx hb dL_law_138 ?_
  refine cu_top (x' := nI (i + 1)) (lw_ik i 1) ?_
  refine va_sld hx hb hX hsb hsA hS (lw_ix hi hL (by decide)) dL_law_139 ?_
  refine cu_top (x' := v1) ev1.symm ?_
  have sp := cu_sp.pre (w := (cu_mw C o r q th (nI N) mn M)) (w' := (cu_mw C o r q (k_cA N v1) (if k_cA N v1 = 0 then nI (N + 1) else nI N) mn (if k_cA N v1 = 0 then va_up M N (k_fresh v1) else M))) (Y := (k_sel ((k_oT v1).or (k_oN N)) ((cu_cw C a (nI (N + 1)) mn (va_up K N (upd (upd (K N) 0 v1) 1 0)) P) ++ cu_ou C out (vp_updL f 0 ((nI N)).toInt64)) ((cu_cw C a (nI N) mn K P) ++ cu_ou C out f))) cu_mw_fst
  refine cu_callI (va_runV (As := [.int v1]) (rest := []) ⟨hx, hb, hml, hown, hts⟩ ((m_X2_come l D C o r q th N hN mn M v1) H.size) (cwV 1 hts gL_law_X2_come rfl rfl rfl (by decide +kernel) ⟨Nat.le_of_ble_eq_true rfl, Nat.le_of_ble_eq_true rfl⟩) (cu_preV (ci := 2) sp hG hP hD rfl rfl) rfl rfl hl.1 rfl (lv_room (Nat.le_of_ble_eq_true rfl)) dL_law_140 ⟨by show cells + 2 + 1 ≤ 601024; omega, by show slots + 12 + 14 ≤ 7293034; omega⟩) sp hP hD hS hA (fun H locs hP hD hS => ?_)
  refine lv_istore (lv' := [(6, .int (if k_cA N v1 = 0 then nI N else 0)), (5, .int (k_cA N v1)), (0, .ref sb), (1, .ref (a 0)), (2, .ref o), (3, .ref out), (4, .int (nI i))]) hx hb dL_law_143 hl (by decide) rfl (fun ls hl => ?_)
  by_cases hc : k_cA N v1 = 0
  · have ho : ((k_oT v1).or (k_oN N)) = none := k_hc_0 ((k_hc_A hN v1).trans hc)
    have q0 := k_cA_0 hN hc
    have hP : va_P D vwCl (lw_w C o r q 0 (N + 1) mn (va_up M N (k_fresh v1)) a (va_up K N (upd (upd (K N) 0 v1) 1 0)) P out (vp_updL f 0 ((nI N)).toInt64)) H := by
      rw [ho, if_pos hc, if_pos hc, hc] at hP
      exact hP
    have hD : va_D A (lw_w C o r q 0 (N + 1) mn (va_up M N (k_fresh v1)) a (va_up K N (upd (upd (K N) 0 v1) 1 0)) P out (vp_updL f 0 ((nI N)).toInt64)) := by
      rw [ho, if_pos hc, if_pos hc, hc] at hD
      exact hD
    have J := I.come q0.2 q0.1
    refine lv_aload_n hx hb dL_law_145 rfl (lv_at hl 4 rfl) ?_
    have sp := cu_sp.pre (w := (cu_mw C o r q 0 (nI (N + 1)) mn (va_up M N (k_fresh v1)))) (w' := (cu_mw C o r q 0 (nI (N + 1)) mn (va_up M N (k_fresh v1)))) (Y := (cu_cw C a (nI (N + 1)) mn (va_up K N (upd (upd (K N) 0 v1) 1 0)) P ++ cu_ou C out (vp_updL f 0 ((nI N)).toInt64))) rfl
    refine cu_callI (va_runV (As := []) (rest := []) ⟨hx, hb, hml, hown, hts⟩ ((m_X2_thrown l D C o r q 0 (N + 1) J.1 mn (va_up M N (k_fresh v1))) H.size) (cwV 0 hts gL_law_X2_thrown rfl rfl rfl (by decide +kernel) ⟨Nat.le_of_ble_eq_true rfl, Nat.le_of_ble_eq_true rfl⟩) (cu_preV (ci := 2) sp hG hP hD rfl rfl) rfl rfl hl.1 rfl (lv_room (Nat.le_of_ble_eq_true rfl)) dL_law_146 ⟨by show cells + 2 + 1 + 0 ≤ 601024; omega, by show slots + 12 + 14 + 0 ≤ 7293034; omega⟩) sp hP hD hS hA (fun H locs hP hD hS => ?_)
    refine lv_iload hx hb dL_law_149 (lv_at hl 1 rfl) ?_
    refine lv_icmp_eq (tgt := 156) hx hb dL_law_151 (by decide) (fun _ => ?_) (fun z => absurd (hc.symm) z)
    refine lv_iload hx hb dL_law_156 (lv_at hl 1 rfl) ?_
    refine lv_if_ne (tgt := 173) hx hb dL_law_158 (by decide) (fun z => absurd hc z) (fun _ => ?_)
    refine lv_aload_n hx hb dL_law_161 rfl (lv_at hl 5 rfl) ?_
    refine lv_iconst (v := 0) hx hb dL_law_162 (by decide) ?_
    refine va_lald (f := (vp_updL f 0 ((nI N)).toInt64)) hx hb hK hP 26 2 rfl rfl (vp_in_nI (n := 0) (by decide) (by decide)) dL_law_163 ?_
    refine W.eq (g2 := F0 m 164 ls [.long ((nI N)).toInt64]) rfl ?_
    refine lv_iload hx hb dL_law_164 (lv_at hl 0 rfl) ?_
    refine cu_top (x' := (nI N)) ((if_pos hc)) ?_
    refine lv_i2l (v := ((nI N)).toInt64) hx hb dL_law_166 rfl ?_
    refine W.lcmp hx hb dL_law_167 ?_
    refine lv_if_eq (tgt := 173) hx hb dL_law_168 (by decide) (fun _ => ?_) (fun z => absurd (lw_cmp _) z)
    refine lv_goto (tgt := 1123) hx hb dL_law_173 (by decide) ?_
    refine W.widen (k := cells + 6) (n := slots + 170) (by omega) (by omega) ?_
    exact kk _ _ _ _ _ _ _ _ _ _ J hP hD hS (lv_sub hl [2, 3, 4, 5, 6] rfl)
  · obtain ⟨E, ho⟩ := k_hc_n (fun z => hc ((k_hc_A hN v1).symm.trans z))
    have hP : va_P D vwCl (lw_w C o r q (k_cA N v1) N mn M a K P out f) H := by
      rw [ho, if_neg hc, if_neg hc] at hP
      exact hP
    have hD : va_D A (lw_w C o r q (k_cA N v1) N mn M a K P out f) := by
      rw [ho, if_neg hc, if_neg hc] at hD
      exact hD
    refine lv_aload_n hx hb dL_law_145 rfl (lv_at hl 4 rfl) ?_
    have sp := cu_sp.pre (w := (cu_mw C o r q (k_cA N v1) (nI N) mn M)) (w' := (cu_mw C o r q (k_cA N v1) (nI N) mn M)) (Y := (cu_cw C a (nI N) mn K P ++ cu_ou C out f)) rfl
    refine cu_callI (va_runV (As := []) (rest := []) ⟨hx, hb, hml, hown, hts⟩ ((m_X2_thrown l D C o r q (k_cA N v1) N hN mn M) H.size) (cwV 0 hts gL_law_X2_thrown rfl rfl rfl (by decide +kernel) ⟨Nat.le_of_ble_eq_true rfl, Nat.le_of_ble_eq_true rfl⟩) (cu_preV (ci := 2) sp hG hP hD rfl rfl) rfl rfl hl.1 rfl (lv_room (Nat.le_of_ble_eq_true rfl)) dL_law_146 ⟨by show cells + 2 + 1 + 0 ≤ 601024; omega, by show slots + 12 + 14 + 0 ≤ 7293034; omega⟩) sp hP hD hS hA (fun H locs hP hD hS => ?_)
    refine lv_iload hx hb dL_law_149 (lv_at hl 1 rfl) ?_
    refine lv_icmp_eq (tgt := 156) hx hb dL_law_151 (by decide) (fun _ => ?_) (fun z => absurd (rfl) z)
    refine lv_iload hx hb dL_law_156 (lv_at hl 1 rfl) ?_
    refine lv_if_ne (tgt := 173) hx hb dL_law_158 (by decide) (fun _ => ?_) (fun z => absurd z hc)
    refine lv_goto (tgt := 1123) hx hb dL_law_173 (by decide) ?_
    refine W.widen (k := cells + 6) (n := slots + 170) (by omega) (by omega) ?_
    exact kk _ _ _ _ _ _ _ _ _ _ I.next hP hD hS (lv_sub hl [2, 3, 4, 5, 6] rfl)
