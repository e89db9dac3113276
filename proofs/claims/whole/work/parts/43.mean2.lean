theorem k_mean_cmp {r1 r2 m : UInt64} (h1 : alike64 r1 m = true) (h2 : alike64 r2 m = true) : Op.cmpValue (FP.dcmp r1 r2) .l = 0 ∨ (¬ Op.cmpValue (FP.dcmp r1 r1) .l = 0 ∧ ¬ Op.cmpValue (FP.dcmp r2 r2) .l = 0) := by
  have hn : ∀ r : UInt64, isNaN64 r = true → ¬ Op.cmpValue (FP.dcmp r r) .l = 0 := by
    intro r hr
    rw [k_nan_none hr]
    decide
  have hc : ∀ r : UInt64, alike64 r m = true → r = m ∨ (isNaN64 r = true ∧ isNaN64 m = true) := by
    intro r hr
    simpa [alike64] using hr
  by_cases hm : isNaN64 m = true
  · refine Or.inr ⟨hn r1 ?_, hn r2 ?_⟩
    · rcases hc r1 h1 with e | e
      · rw [e]; exact hm
      · exact e.1
    · rcases hc r2 h2 with e | e
      · rw [e]; exact hm
      · exact e.1
  · have e1 : r1 = m := (hc r1 h1).resolve_right (fun z => hm z.2)
    have e2 : r2 = m := (hc r2 h2).resolve_right (fun z => hm z.2)
    subst e1
    subst e2
    have ho : FP.dcmp r2 r2 = none ∨ FP.dcmp r2 r2 = some .eq := by
      show FP.Core.order (FP.Core.decode FP.Core.b64 r2.toNat) (FP.Core.decode FP.Core.b64 r2.toNat) = none ∨ FP.Core.order (FP.Core.decode FP.Core.b64 r2.toNat) (FP.Core.decode FP.Core.b64 r2.toNat) = some .eq
      cases FP.Core.decode FP.Core.b64 r2.toNat with
      | nan => exact Or.inl rfl
      | inf s => exact Or.inr (by simp [FP.Core.order])
      | fin s c q => exact Or.inr (by simp [FP.Core.order])
    rcases ho with e | e
    · rw [e]; exact Or.inr ⟨by decide, by decide⟩
    · rw [e]; exact Or.inl (by decide)
theorem cu_callD {p : Program} {l : Launch} {e : Env} {R : Room} {s : State} {m : MethodId} {args : Array Value} {below : List Frame} {meth : Method} {c : Code} {H : Heap} {locs : List Loc} {cells slots : Nat} {Q : State → Prop} {pc : Nat} {ls : Array Slot} {rest st0 : List Value} {a : Array Value} {A : Nat → Prop} {H0 : Heap} {mc ms : Nat} {D : va_G} {W0 w W1 w' : va_W} {val : UInt64} {d0 : Drawn} (hd0 : s.drawn.sameBut d0 lw_cs)
    (hr : va_RunD lw_cs p l e R (s.setDrawn d0) m args below meth c H locs cells slots mc ms (F0 m pc ls st0) rest (va_Qd (fun (r : UInt64) (_ : Unit) => alike64 r val = true) (fun _ t => va_P D vwCl w' t.heap) (va_A w H.size) a) (va_A w H.size)) (sp : cu_sp W0 w W1 w') (hP : va_P D vwCl W0 H) (hD : va_D A W0) (hS : va_S A H0 H locs) (hA : ∀ q : Nat, H0.size ≤ q → A q)
    (kk : ∀ (r : UInt64) (H1 : Heap) (locs1 : List Loc) (d1 : Drawn), s.drawn.sameBut d1 lw_cs → alike64 r val = true → va_P D vwCl W1 H1 → va_D A W1 → va_S A H0 H1 locs1 → W p l e R (s.setDrawn d1) m args below meth c H1 locs1 (cells + mc) (slots + ms) Q (F0 m (pc + 3) ls (.double r :: rest))) : W p l e R (s.setDrawn d0) m args below meth c H locs cells slots Q (F0 m pc ls st0) := by
  have hF := sp.F hD hS hA
  refine va_calldD hd0 hr hS (fun q _ h => hF q h) hF (fun r u t H1 locs1 ht _ hpost hB hz hk hS1 d1 hd1 => ?_)
  rw [ht] at hB
  exact kk r H1 locs1 d1 hd1 hpost (sp.join hP hD hk hB) (cu_D_fst sp.fst hD) hS1
set_option maxHeartbeats 4000000 in
set_option maxRecDepth 100000 in
theorem lw_op_mean {p : Program} {l : Launch} {e : Env} {s : State} {m : MethodId} {args : Array Value} {below : List Frame} {meth : Method} {c : Code} {A : Nat → Prop} {Z : State → Prop} {H0 H : Heap} {locs : List Loc} {ls : Array Slot} {D : va_G} {C : Nat → ClassId} {sb L o r q out i b N cells slots : Nat} {xs : Nat → Int32} {a : Nat → Nat} {f : Nat → Int64} {mn th : Int32} {K P M : Nat → Nat → Int32}
    {d0 : Drawn} (hd0 : s.drawn.sameBut d0 lw_cs) (X : lw_cx p l s m args c A H0 D C sb L xs) (I : k_iv N mn K M b) (hb9 : b < 512) (hi : i + 5 ≤ L) (hL : L ≤ 2560) (hP : va_P D vwCl (lw_w C o r q th N mn M a K P out f) H) (hD : va_D A (lw_w C o r q th N mn M a K P out f)) (hS : va_S A H0 H locs) (hl : lv_has ls 9 [(0, .ref sb), (1, .ref (a 0)), (2, .ref o), (3, .ref out), (4, .int (nI i))]) (hc9 : cells + 10 ≤ 601024) (hs9 : slots + 200 ≤ 7293034)
    (kk : ∀ (d1 : Drawn) (N1 : Nat) (mn1 th1 : Int32) (K1 P1 M1 : Nat → Nat → Int32) (f1 : Nat → Int64) (H : Heap) (locs : List Loc) (ls : Array Slot), s.drawn.sameBut d1 lw_cs → k_iv N1 mn1 K1 M1 (b + 1) → va_P D vwCl (lw_w C o r q th1 N1 mn1 M1 a K1 P1 out f1) H → va_D A (lw_w C o r q th1 N1 mn1 M1 a K1 P1 out f1) → va_S A H0 H locs → lv_has ls 9 [(0, .ref sb), (1, .ref (a 0)), (2, .ref o), (3, .ref out), (4, .int (nI i))] → W p l e room_1 (s.setDrawn d1) m args below meth c H locs (cells + 6) (slots + 170) Z (F0 m 1123 ls [])) : W p l e room_1 (s.setDrawn d0) m args below meth c H locs cells slots Z (F0 m 1068 ls []) := by
  obtain ⟨hx, hb, hml, hts, hown, hG, hT, hX, hsb, hsA, hA, hlf⟩ := X
  have hN := I.1
  have ll1 : ∀ x : Nat, x + 0 + 0 ≤ x + 0 + 0 := fun _ => Nat.le_refl _
  refine lv_aload_n hx hb dL_law_1068 rfl (lv_at hl 1 rfl) ?_
  have sp := cu_sp.mid (X := (cu_mw C o r q th (nI N) mn M)) (w := (cu_cw C a (nI N) mn K P)) (w' := (cu_cw C a (nI N) mn K P)) (Y := cu_ou C out f) rfl
  refine cu_callD hd0 (va_runV_D (As := []) (rest := []) ⟨hx, hb, hml, hown, dr_words hts _⟩ ((m_X1_mean l D C a N hN mn K P) H.size) (cwV 0 (dr_words hts _) gL_law_X1_mean rfl rfl rfl (by decide +kernel) ⟨Nat.le_of_ble_eq_true rfl, Nat.le_of_ble_eq_true rfl⟩) (cu_preV (ci := 1) sp (cu_G.same rfl hG) hP hD rfl rfl) rfl rfl hl.1 rfl (lv_room (Nat.le_of_ble_eq_true rfl)) dL_law_1069 ⟨by show cells + 0 ≤ 601024; omega, by show slots + 0 ≤ 7293034; omega⟩) sp hP hD hS hA (fun r1 H locs d1 hd1 ha1 hP hD hS => ?_)
  refine lv_dstore (lv' := [(5, .double r1), (0, .ref sb), (1, .ref (a 0)), (2, .ref o), (3, .ref out), (4, .int (nI i))]) hx hb dL_law_1072 hl (by decide) rfl (fun ls hl => ?_)
  refine lv_aload_n hx hb dL_law_1074 rfl (lv_at hl 3 rfl) ?_
  have sp := cu_sp.pre (w := (cu_mw C o r q th (nI N) mn M)) (w' := (cu_mw C o r q 0 (nI N) mn M)) (Y := (cu_cw C a (nI N) mn K P ++ cu_ou C out f)) cu_mw_fst
  refine cu_callD hd1 (va_runV_D (As := []) (rest := []) ⟨hx, hb, hml, hown, dr_words hts _⟩ ((m_X2_mean l D C o r q th N hN mn M I.okM) H.size) (cwV 0 (dr_words hts _) gL_law_X2_mean rfl rfl rfl (by decide +kernel) ⟨Nat.le_of_ble_eq_true rfl, Nat.le_of_ble_eq_true rfl⟩) (cu_preV (ci := 2) sp (cu_G.same rfl hG) hP hD rfl rfl) rfl rfl hl.1 rfl (lv_room (Nat.le_of_ble_eq_true rfl)) dL_law_1075 ⟨by show cells + 0 + 0 ≤ 601024; omega, by show slots + 0 + 0 ≤ 7293034; omega⟩) sp hP hD hS hA (fun r2 H locs d2 hd2 ha2 hP hD hS => ?_)
  rw [k_mean_eq I.2.2.1] at ha2
  refine lv_dstore (lv' := [(7, .double r2), (5, .double r1), (0, .ref sb), (1, .ref (a 0)), (2, .ref o), (3, .ref out), (4, .int (nI i))]) hx hb dL_law_1078 hl (by decide) rfl (fun ls hl => ?_)
  refine lv_dload hx hb dL_law_1080 (lv_at hl 1 rfl) ?_
  refine lv_dload hx hb dL_law_1082 (lv_at hl 0 rfl) ?_
  refine lv_dcmp hx hb dL_law_1084 ?_
  refine lv_if_eq (tgt := 1106) hx hb dL_law_1085 (by decide) (fun z => ?_) (fun z => ?_)
  · refine lv_goto (tgt := 1123) hx hb dL_law_1106 (by decide) ?_
    refine W.widen (k := cells + 6) (n := slots + 170) (by omega) (by omega) ?_
    exact kk _ _ _ _ _ _ _ _ _ _ _ hd2 I.next hP hD hS (lv_sub hl [2, 3, 4, 5, 6] rfl)
  · obtain ⟨h3, h4⟩ := (k_mean_cmp ha1 ha2).resolve_left z
    refine lv_dload hx hb dL_law_1088 (lv_at hl 1 rfl) ?_
    refine lv_dload hx hb dL_law_1090 (lv_at hl 1 rfl) ?_
    refine lv_dcmp hx hb dL_law_1092 ?_
    refine lv_if_eq (tgt := 1104) hx hb dL_law_1093 (by decide) (fun z => absurd z h3) (fun _ => ?_)
    refine lv_dload hx hb dL_law_1096 (lv_at hl 0 rfl) ?_
    refine lv_dload hx hb dL_law_1098 (lv_at hl 0 rfl) ?_
    refine lv_dcmp hx hb dL_law_1100 ?_
    refine lv_if_ne (tgt := 1106) hx hb dL_law_1101 (by decide) (fun _ => ?_) (fun z => absurd z h4)
    refine lv_goto (tgt := 1123) hx hb dL_law_1106 (by decide) ?_
    refine W.widen (k := cells + 6) (n := slots + 170) (by omega) (by omega) ?_
    exact kk _ _ _ _ _ _ _ _ _ _ _ hd2 I.next hP hD hS (lv_sub hl [2, 3, 4, 5, 6] rfl)
