set_option maxHeartbeats 4000000 in
set_option maxRecDepth 100000 in
theorem lw_op_digest {p : Program} {l : Launch} {e : Env} {s : State} {m : MethodId} {args : Array Value} {below : List Frame} {meth : Method} {c : Code} {A : Nat → Prop} {Z : State → Prop} {H0 H : Heap} {locs : List Loc} {ls : Array Slot} {D : va_G} {C : Nat → ClassId} {sb L o r q out i b N cells slots : Nat} {xs : Nat → Int32} {a : Nat → Nat} {f : Nat → Int64} {mn th : Int32} {K P M : Nat → Nat → Int32}
    (X : lw_cx p l s m args c A H0 D C sb L xs) (I : k_iv N mn K M b) (hb9 : b < 512) (hi : i + 5 ≤ L) (hL : L ≤ 2560) (hP : va_P D vwCl (lw_w C o r q th N mn M a K P out f) H) (hD : va_D A (lw_w C o r q th N mn M a K P out f)) (hS : va_S A H0 H locs) (hl : lv_has ls 9 [(0, .ref sb), (1, .ref (a 0)), (2, .ref o), (3, .ref out), (4, .int (nI i))]) (hc9 : cells + 10 ≤ 601024) (hs9 : slots + 200 ≤ 7293034)
    (kk : ∀ (N1 : Nat) (mn1 th1 : Int32) (K1 P1 M1 : Nat → Nat → Int32) (f1 : Nat → Int64) (H : Heap) (locs : List Loc) (ls : Array Slot), k_iv N1 mn1 K1 M1 (b + 1) → va_P D vwCl (lw_w C o r q th1 N1 mn1 M1 a K1 P1 out f1) H → va_D A (lw_w C o r q th1 N1 mn1 M1 a K1 P1 out f1) → va_S A H0 H locs → lv_has ls 9 [(0, .ref sb), (1, .ref (a 0)), (2, .ref o), (3, .ref out), (4, .int (nI i))] → W p l e room_1 s m args below meth c H locs (cells + 6) (slots + 170) Z (F0 m 1123 ls [])) : W p l e room_1 s m args below meth c H locs cells slots Z (F0 m 1109 ls []) := by
  obtain ⟨hx, hb, hml, hts, hown, hG, hT, hX, hsb, hsA, hA, hlf⟩ := X
  have hK := hG.1
  have hN := I.1
  refine lv_aload_n hx hb dL_law_1109 rfl (lv_at hl 1 rfl) ?_
  have sp := cu_sp.mid (X := (cu_mw C o r q th (nI N) mn M)) (w := (cu_cw C a (nI N) mn K P)) (w' := (cu_cw C a (nI N) mn K P)) (Y := cu_ou C out f) rfl
  refine cu_callL (va_runV (As := []) (rest := []) ⟨hx, hb, hml, hown, hts⟩ ((m_X1_digest l D C a N hN mn K P) H.size) (cwV 0 hts gL_law_X1_digest rfl rfl rfl (by decide +kernel) ⟨Nat.le_of_ble_eq_true rfl, Nat.le_of_ble_eq_true rfl⟩) (cu_preV (ci := 1) sp hG hP hD rfl rfl) rfl rfl hl.1 rfl (lv_room (Nat.le_of_ble_eq_true rfl)) dL_law_1110 ⟨by show cells + 0 ≤ 601024; omega, by show slots + 0 ≤ 7293034; omega⟩) sp hP hD hS hA (fun H locs hP hD hS => ?_)
  refine lv_aload_n hx hb dL_law_1113 rfl (lv_at hl 2 rfl) ?_
  have sp := cu_sp.pre (w := (cu_mw C o r q th (nI N) mn M)) (w' := (cu_mw C o r q 0 (nI N) mn M)) (Y := (cu_cw C a (nI N) mn K P ++ cu_ou C out f)) cu_mw_fst
  refine cu_callL (va_runV (As := []) (rest := [.long (k_dig N K mn)]) ⟨hx, hb, hml, hown, hts⟩ ((m_X2_digest l D C o r q th N hN mn M I.okM I.2.2.2.2.1) H.size) (cwV 0 hts gL_law_X2_digest rfl rfl rfl (by decide +kernel) ⟨Nat.le_of_ble_eq_true rfl, Nat.le_of_ble_eq_true rfl⟩) (cu_preV (ci := 2) sp hG hP hD rfl rfl) rfl rfl hl.1 rfl (lv_room (Nat.le_of_ble_eq_true rfl)) dL_law_1114 ⟨by show cells + 0 + 0 ≤ 601024; omega, by show slots + 0 + 0 ≤ 7293034; omega⟩) sp hP hD hS hA (fun H locs hP hD hS => ?_)
  refine W.lcmp hx hb dL_law_1117 ?_
  refine lv_if_eq (tgt := 1123) hx hb dL_law_1118 (by decide) (fun _ => ?_) (fun z => absurd (by rw [k_dig_eq I.2.2.1]; exact lw_cmp _) z)
  refine W.widen (k := cells + 6) (n := slots + 170) (by omega) (by omega) ?_
  exact kk _ _ _ _ _ _ _ _ _ _ I.next hP hD hS hl
