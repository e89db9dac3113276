/-! the shop's constructor: two rows, twenty clocks -/
abbrev cu_nk : va_E := .inr (0, cu_ck (k_new (fun _ => 0)))
abbrev cu_w3 (C : Nat → ClassId) (o b d : Nat) (F G : Nat → Option Nat) : va_W := [(o, .inr (1, [.ref b, .ref d, .int 0, .int 0])), (b, .inl (C 1, 10, .inr (.inr (.inr (.inr F))))), (d, .inl (C 1, 10, .inr (.inr (.inr (.inr G)))))]
def cu_mk (f g : Nat → Nat) : Nat → va_W
  | 0 => []
  | i + 1 => cu_mk f g i ++ [(f i, cu_nk), (g i, cu_nk)]
theorem cu_mk_c {f g f1 g1 : Nat → Nat} : ∀ (i : Nat), (∀ k, k < i → f k = f1 k) → (∀ k, k < i → g k = g1 k) → cu_mk f g i = cu_mk f1 g1 i
  | 0, _, _ => rfl
  | i + 1, h1, h2 => by
    show cu_mk f g i ++ [(f i, cu_nk), (g i, cu_nk)] = cu_mk f1 g1 i ++ [(f1 i, cu_nk), (g1 i, cu_nk)]
    rw [cu_mk_c i (fun k hk => h1 k (by omega)) (fun k hk => h2 k (by omega)), h1 i (by omega), h2 i (by omega)]
theorem cu_w3_ext {D : va_G} {C : Nat → ClassId} {o b d : Nat} {F G F1 G1 : Nat → Option Nat} {L : va_W} {H : Heap} (hF : ∀ j, j < 10 → F j = F1 j) (hG : ∀ j, j < 10 → G j = G1 j) (h : va_P D vwCl (cu_w3 C o b d F G ++ L) H) : va_P D vwCl (cu_w3 C o b d F1 G1 ++ L) H := by
  intro k z hz
  match k, hz with
  | 0, hz => exact h 0 z hz
  | 1, hz =>
    have h2 : H[b]? = some (vp_cell (C 1) (10, .inr (.inr (.inr (.inr F))))) := h 1 (b, .inl (C 1, 10, .inr (.inr (.inr (.inr F))))) rfl
    have e : z = (b, .inl (C 1, 10, .inr (.inr (.inr (.inr F1))))) := (Option.some.inj hz).symm
    rw [e]
    show H[b]? = some (vp_cell (C 1) (10, .inr (.inr (.inr (.inr F1)))))
    rw [h2, cu_cell_extq hF]
  | 2, hz =>
    have h2 : H[d]? = some (vp_cell (C 1) (10, .inr (.inr (.inr (.inr G))))) := h 2 (d, .inl (C 1, 10, .inr (.inr (.inr (.inr G))))) rfl
    have e : z = (d, .inl (C 1, 10, .inr (.inr (.inr (.inr G1))))) := (Option.some.inj hz).symm
    rw [e]
    show H[d]? = some (vp_cell (C 1) (10, .inr (.inr (.inr (.inr G1)))))
    rw [h2, cu_cell_extq hG]
  | k + 3, hz => exact h (k + 3) z hz
theorem cu_newQ {p : Program} {l : Launch} {e : Env} {R : Room} {s : State} {m : MethodId} {args : Array Value} {below : List Frame} {meth : Method} {c : Code} {H : Heap} {locs : List Loc} {cells slots : Nat} {Q : State → Prop} {cc : ByteArray} {pc : Nat} {ls : Array Slot} {rest : List Value} {D : va_G} {C : Nat → ClassId} {A : Nat → Prop} {ws : va_W} {H0 : Heap}
    (hexec : p.tables.exec = Jvm.exec) (hb : c.code = cc) {own : String} {index : Nat} (hown : s.vm.findClass own = some m.cls) (hclink : (Cond.classLink own index "CuckooShop$Clock").before args s = true) (hover : va_AO "CuckooShop$Clock" s) (hK : va_K D vwCl (cu_tys C) s) (hP : va_P D vwCl ws H) (hD : va_D A ws) (hS : va_S A H0 H locs) (hA : ∀ q : Nat, H0.size ≤ q → A q)
    {n : Int32} {N' : Nat} (hn : ¬ n < 0) (hN : n.toNatClampNeg = N') (hbytes : N' * 4 ≤ 536870912) (hcells : cells + 1 ≤ R.cells) (hslots : slots + N' ≤ R.slots) (hdg : decode cc pc = .ok (.anewarray index, 3))
    (kk : ∀ (q : Nat) (H1 : Heap), va_P D vwCl (ws ++ [(q, .inl (C 1, N', .inr (.inr (.inr (.inr (fun _ => none))))))]) H1 → va_D A (ws ++ [(q, .inl (C 1, N', .inr (.inr (.inr (.inr (fun _ => none))))))]) → va_S A H0 H1 locs →
      W p l e R s m args below meth c H1 locs (cells + 1) (slots + N') Q (F0 m (pc + 3) ls (.ref q :: rest))) : W p l e R s m args below meth c H locs cells slots Q (F0 m pc ls (.int n :: rest)) := by
  refine va_newq hexec hb hown hclink hover hK hP hD hS hA hn hN hbytes hcells hslots hdg (fun q cA H1 hK1 hP1 hD1 hS1 => ?_)
  obtain ⟨-, -, -, -, -, h1⟩ := (hK1.2 4 (cA, .object "CuckooShop$Clock") rfl).2
  obtain ⟨-, -, -, -, -, h2⟩ := (hK.2 1 (C 1, .object "CuckooShop$Clock") rfl).2
  cases Option.some.inj (h1.symm.trans h2)
  exact kk q H1 hP1 hD1 hS1
theorem cu_last {X : va_W} {x : Nat × va_E} : (X ++ [x])[X.length]? = some x := by simp
set_option maxHeartbeats 4000000 in
set_option maxRecDepth 100000 in
theorem m_X1_minit (l : Launch) (D : va_G) (C : Nat → ClassId) (o : Nat) : cu_N l D C yX1_init wsX1_init { frames := 2, cells := 22, slots := 300, locals := 60 } [.ref o] [(o, .inr (1, [.null, .null, .int 0, .int 0]))] (fun a : Nat → Nat => a 0 = o) (fun a => cu_cw C a 0 0 (fun _ => k_new (fun _ => 0)) (fun _ => k_new (fun _ => 0))) 22 300 := by
  refine cu_openN (cc := cX1_init) (maxL := 2) (own := RX1) (by decide) rfl rfl (Nat.le_of_ble_eq_true rfl) ?_
  intro p e s m args below meth c A Z H0 ls e0 hx hb hml hts hown hnm hG hP hD hS hA hl fin
  have hK := hG.1
  have hl : lv_has ls 2 [(0, .ref o)] := hl
  have hiX1 : ∀ w ∈ wsX10, w ∈ wsX1_init := by decide +kernel
  have hiX0 : ∀ w ∈ wsX00, w ∈ wsX1_init := by decide +kernel
  have hov : va_AO "CuckooShop$Clock" s := hG.2.2.2.2.2.2.2.2.1
  have hfs : ∀ j, j < 14 → defaultValue (tyX0 j) = vp_V (cu_ck (fun _ => 0)) j := by
    intro j hj
    have h9 : j = 0 ∨ j = 1 ∨ j = 2 ∨ j = 3 ∨ j = 4 ∨ j = 5 ∨ j = 6 ∨ j = 7 ∨ j = 8 ∨ j = 9 ∨ j = 10 ∨ j = 11 ∨ j = 12 ∨ j = 13 := by omega
    rcases h9 with rfl | rfl | rfl | rfl | rfl | rfl | rfl | rfl | rfl | rfl | rfl | rfl | rfl | rfl <;> rfl
  refine lv_aload_n hx hb dX1_init_0 rfl (lv_at hl 0 rfl) ?_
  refine W.objInit hx hb hown (hts (.methodLink RX1 1 objectInit) (by decide +kernel)) (hts (.instanceMethod objectInit) (by decide +kernel)) (hts (.code objectInit ⟨#[0xb1]⟩ 1 none) (by decide +kernel)) rfl (by rw [hml]; exact hl.1) rfl dX1_init_1 (Nat.le_of_ble_eq_true rfl) (Nat.le_of_ble_eq_true rfl) ?_
  refine W.eq (g2 := F0 m 4 ls []) rfl ?_
  refine lv_aload_n hx hb dX1_init_4 rfl (lv_at hl 0 rfl) ?_
  refine lv_bipush (v := 10) hx hb dX1_init_5 (by decide) ?_
  refine cu_newQ hx hb hown (hts (.classLink RX1 9 RX0) (by decide +kernel)) hov hK hP hD hS hA (N' := 10) (by decide) rfl (Nat.le_of_ble_eq_true rfl) (Nat.le_of_ble_eq_true rfl) (Nat.le_of_ble_eq_true rfl) dX1_init_7 (fun b H hP hD hS => ?_)
  refine va_putF (D := D) (ci := 1) (v := .ref b) (ty := .array (.object "CuckooShop$Clock")) (C := RX1) (T := TX1) (N := 4) hx hb hts hiX1 tyX1 tyX1_ok nmX1 hown hK hP hD hS 0 rfl rfl 0 (by decide) (hts (.fieldLink RX1 11 "CuckooShop" "clocks" "[LCuckooShop$Clock;") (by decide +kernel)) (fun _ h9 => h9) rfl hnm rfl (by decide +kernel) rfl rfl (Nat.le_of_ble_eq_true rfl) dX1_init_10 (fun H locs hP hD hS => ?_)
  refine lv_aload_n hx hb dX1_init_13 rfl (lv_at hl 0 rfl) ?_
  refine lv_bipush (v := 10) hx hb dX1_init_14 (by decide) ?_
  refine cu_newQ hx hb hown (hts (.classLink RX1 9 RX0) (by decide +kernel)) hov hK hP hD hS hA (N' := 10) (by decide) rfl (Nat.le_of_ble_eq_true rfl) (Nat.le_of_ble_eq_true rfl) (Nat.le_of_ble_eq_true rfl) dX1_init_16 (fun d H hP hD hS => ?_)
  refine va_putF (D := D) (ci := 1) (v := .ref d) (ty := .array (.object "CuckooShop$Clock")) (C := RX1) (T := TX1) (N := 4) hx hb hts hiX1 tyX1 tyX1_ok nmX1 hown hK hP hD hS 0 rfl rfl 1 (by decide) (hts (.fieldLink RX1 15 "CuckooShop" "copies" "[LCuckooShop$Clock;") (by decide +kernel)) (fun _ h9 => h9) rfl hnm rfl (by decide +kernel) rfl rfl (Nat.le_of_ble_eq_true rfl) dX1_init_19 (fun H locs hP hD hS => ?_)
  refine lv_iconst (v := 0) hx hb dX1_init_22 (by decide) ?_
  refine lv_istore_n (lv' := [(1, .int (nI 0)), (0, .ref o)]) hx hb dX1_init_23 rfl hl (by decide) rfl (fun ls hl => ?_)
  have loop : ∀ (j i : Nat) (f g : Nat → Nat) (F G : Nat → Option Nat), i + j = 10 → (∀ k, k < i → F k = some (f k)) → (∀ k, k < i → G k = some (g k)) → ∀ (H : Heap) (locs : List Loc) (ls : Array Slot), va_P D vwCl (cu_w3 C o b d F G ++ cu_mk f g i) H → va_D A (cu_w3 C o b d F G ++ cu_mk f g i) → va_S A H0 H locs → lv_has ls 2 [(0, .ref o), (1, .int (nI i))] →
      W p l e { frames := 2, cells := 22, slots := 300, locals := 60 } s m args below meth c H locs (2 + 2 * i) (20 + 28 * i) Z (F0 m 24 ls []) := by
    intro j
    induction j with
    | zero =>
      intro i f g F G hj hF hG2 H locs ls hP hD hS hl
      obtain rfl : i = 10 := by omega
      refine lv_iload_n hx hb dX1_init_24 rfl (lv_at hl 1 rfl) ?_
      refine lv_bipush (v := 10) hx hb dX1_init_25 (by decide) ?_
      refine lv_icmp_ge (tgt := 62) hx hb dX1_init_27 (by decide) (fun c_27 => ?_) (fun c_27 => absurd (nI_le (a := 10) (by omega) (by omega)) c_27)
      refine lv_aload_n hx hb dX1_init_62 rfl (lv_at hl 0 rfl) ?_
      refine lv_iconst (v := 0) hx hb dX1_init_63 (by decide) ?_
      refine va_put (D := D) (ci := 1) (v := .int 0) (ty := .int) (C := RX1) (T := TX1) (N := 4) hx hb hts hiX1 tyX1 tyX1_ok nmX1 hown hK hP hD hS 0 rfl rfl 2 (by decide) (hts (.fieldLink RX1 19 "CuckooShop" "present" "I") (by decide +kernel)) (fun _ h9 => h9) rfl (by decide +kernel) rfl rfl (Nat.le_of_ble_eq_true rfl) dX1_init_64 (fun H locs hP hD hS => ?_)
      refine lv_aload_n hx hb dX1_init_67 rfl (lv_at hl 0 rfl) ?_
      refine lv_iconst (v := 0) hx hb dX1_init_68 (by decide) ?_
      refine va_put (D := D) (ci := 1) (v := .int 0) (ty := .int) (C := RX1) (T := TX1) (N := 4) hx hb hts hiX1 tyX1 tyX1_ok nmX1 hown hK hP hD hS 0 rfl rfl 3 (by decide) (hts (.fieldLink RX1 23 "CuckooShop" "minute" "I") (by decide +kernel)) (fun _ h9 => h9) rfl (by decide +kernel) rfl rfl (Nat.le_of_ble_eq_true rfl) dX1_init_69 (fun H locs hP hD hS => ?_)
      have hP : va_P D vwCl (cu_w3 C o b d F G ++ cu_mk f g 10) H := hP
      have hD : va_D A (cu_w3 C o b d F G ++ cu_mk f g 10) := hD
      have hP := cu_w3_ext (F1 := fun i => some (f i)) (G1 := fun i => some (g i)) hF hG2 hP
      have hD : va_D A (cu_w3 C o b d (fun i => some (f i)) (fun i => some (g i)) ++ cu_mk f g 10) := by refine cu_D_fst ?_ hD; rfl
      refine fin (fun k => if k = 0 then o else if k = 1 then b else if k = 2 then d else if k < 13 then f (k - 3) else g (k - 13)) _ _ _ _ rfl ?_ ?_ hS dX1_init_72
      · have h1 := cu_w3_ext (F1 := fun i => some ((fun k => if k = 0 then o else if k = 1 then b else if k = 2 then d else if k < 13 then f (k - 3) else g (k - 13)) (3 + i))) (G1 := fun i => some ((fun k => if k = 0 then o else if k = 1 then b else if k = 2 then d else if k < 13 then f (k - 3) else g (k - 13)) (13 + i))) (fun j hj => by
          show some (f j) = some (if 3 + j = 0 then o else if 3 + j = 1 then b else if 3 + j = 2 then d else if 3 + j < 13 then f (3 + j - 3) else g (3 + j - 13))
          rw [if_neg (by omega), if_neg (by omega), if_neg (by omega), if_pos (by omega), show 3 + j - 3 = j by omega]) (fun j hj => by
          show some (g j) = some (if 13 + j = 0 then o else if 13 + j = 1 then b else if 13 + j = 2 then d else if 13 + j < 13 then f (13 + j - 3) else g (13 + j - 13))
          rw [if_neg (by omega), if_neg (by omega), if_neg (by omega), if_neg (by omega), show 13 + j - 13 = j by omega]) hP
        exact h1.sub [0, 1, 2, 3, 5, 7, 9, 11, 13, 15, 17, 19, 21, 4, 6, 8, 10, 12, 14, 16, 18, 20, 22] rfl
      · have h1 : va_D A (cu_w3 C o b d (fun i => some ((fun k => if k = 0 then o else if k = 1 then b else if k = 2 then d else if k < 13 then f (k - 3) else g (k - 13)) (3 + i))) (fun i => some ((fun k => if k = 0 then o else if k = 1 then b else if k = 2 then d else if k < 13 then f (k - 3) else g (k - 13)) (13 + i))) ++ cu_mk f g 10) := by refine cu_D_fst ?_ hD; rfl
        exact h1.sub [0, 1, 2, 3, 5, 7, 9, 11, 13, 15, 17, 19, 21, 4, 6, 8, 10, 12, 14, 16, 18, 20, 22] (by decide) rfl
    | succ j ih =>
      intro i f g F G hj hF hG2 H locs ls hP hD hS hl
      have hi : i < 10 := by omega
      refine lv_iload_n hx hb dX1_init_24 rfl (lv_at hl 1 rfl) ?_
      refine lv_bipush (v := 10) hx hb dX1_init_25 (by decide) ?_
      refine lv_icmp_ge (tgt := 62) hx hb dX1_init_27 (by decide) (fun c_27 => absurd c_27 (nI_ge (b := 10) (by omega) (by decide))) (fun c_27 => ?_)
      refine lv_aload_n hx hb dX1_init_30 rfl (lv_at hl 0 rfl) ?_
      refine va_get (D := D) (ci := 1) (v := .ref b) (C := RX1) (T := TX1) (N := 4) hx hb hts hiX1 hown hK hP 0 rfl rfl 0 (by decide) (hts (.fieldLink RX1 11 "CuckooShop" "clocks" "[LCuckooShop$Clock;") (by decide +kernel)) (fun _ h9 => h9) rfl dX1_init_31 ?_
      refine lv_iload_n hx hb dX1_init_34 rfl (lv_at hl 1 rfl) ?_
      refine va_new (ci := 0) (C := RX0) (T := TX0) (N := 14) (fs := cu_ck (fun _ => 0)) hx hb hts hiX0 tyX0 tyX0_ok hown (hts (.classLink RX1 9 RX0) (by decide +kernel)) (hts (.instantiable RX0 14) (by decide +kernel)) (hts (.initialized RX0) (by decide +kernel)) hK hP hD hS hA rfl hfs (by show 2 + 2 * i + 1 ≤ 22; omega) (by show 20 + 28 * i + 14 ≤ 300; omega) dX1_init_35 (fun q1 H hP hD hS => ?_)
      refine lv_dup hx hb dX1_init_38 rfl ?_
      have sp := cu_sp.suf (X := cu_w3 C o b d F G ++ cu_mk f g i) (w := cu_wc q1 (fun _ => 0)) (w' := cu_wc q1 (k_new (fun _ => 0))) rfl
      refine cu_callV (va_runIN (As := []) (rest := [.ref q1, .int (nI i), .ref b]) ⟨hx, hb, hml, hown, hts⟩ ((m_X0_minit l D C q1 (fun _ => 0)) H.size) ⟨va_cnB 0 hts gX1_init_X0_init_n18 rfl rfl rfl (hG.2.1 (18, yX0_init) (by decide +kernel)) (hts (.initialized RX0) (by decide +kernel)) (by decide +kernel) ⟨Nat.le_of_ble_eq_true rfl, Nat.le_of_ble_eq_true rfl⟩, rfl, hts (.instanceMethod yX0_init) (by decide +kernel)⟩ (cu_preS sp hG hP hD) rfl rfl hl.1 rfl (lv_room (Nat.le_of_ble_eq_true rfl)) dX1_init_39 ⟨by show 2 + 2 * i + 1 + 0 ≤ 22; omega, by show 20 + 28 * i + 14 + 0 ≤ 300; omega⟩) sp hP hD hS hA (fun H locs hP hD hS => ?_)
      refine va_astq hx hb hK hP hD hS 1 1 (cu_w3 C o b d F G ++ cu_mk f g i).length 0 (f := F) rfl rfl cu_last rfl (vp_in_nI (by omega) (by decide)) dX1_init_42 (fun H locs hP hD hS => ?_)
      rw [nI_clamp (by omega)] at hP hD
      have hP : va_P D vwCl ((cu_w3 C o b d (va_up F i (some q1)) G ++ cu_mk f g i) ++ [(q1, cu_nk)]) H := hP
      have hD : va_D A ((cu_w3 C o b d (va_up F i (some q1)) G ++ cu_mk f g i) ++ [(q1, cu_nk)]) := hD
      refine lv_aload_n hx hb dX1_init_43 rfl (lv_at hl 0 rfl) ?_
      refine va_get (D := D) (ci := 1) (v := .ref d) (C := RX1) (T := TX1) (N := 4) hx hb hts hiX1 hown hK hP 0 rfl rfl 1 (by decide) (hts (.fieldLink RX1 15 "CuckooShop" "copies" "[LCuckooShop$Clock;") (by decide +kernel)) (fun _ h9 => h9) rfl dX1_init_44 ?_
      refine lv_iload_n hx hb dX1_init_47 rfl (lv_at hl 1 rfl) ?_
      refine va_new (ci := 0) (C := RX0) (T := TX0) (N := 14) (fs := cu_ck (fun _ => 0)) hx hb hts hiX0 tyX0 tyX0_ok hown (hts (.classLink RX1 9 RX0) (by decide +kernel)) (hts (.instantiable RX0 14) (by decide +kernel)) (hts (.initialized RX0) (by decide +kernel)) hK hP hD hS hA rfl hfs (by show 2 + 2 * i + 1 + 0 + 1 ≤ 22; omega) (by show 20 + 28 * i + 14 + 0 + 14 ≤ 300; omega) dX1_init_48 (fun q2 H hP hD hS => ?_)
      refine lv_dup hx hb dX1_init_51 rfl ?_
      have sp := cu_sp.suf (X := (cu_w3 C o b d (va_up F i (some q1)) G ++ cu_mk f g i) ++ [(q1, cu_nk)]) (w := cu_wc q2 (fun _ => 0)) (w' := cu_wc q2 (k_new (fun _ => 0))) rfl
      refine cu_callV (va_runIN (As := []) (rest := [.ref q2, .int (nI i), .ref d]) ⟨hx, hb, hml, hown, hts⟩ ((m_X0_minit l D C q2 (fun _ => 0)) H.size) ⟨va_cnB 0 hts gX1_init_X0_init_n18 rfl rfl rfl (hG.2.1 (18, yX0_init) (by decide +kernel)) (hts (.initialized RX0) (by decide +kernel)) (by decide +kernel) ⟨Nat.le_of_ble_eq_true rfl, Nat.le_of_ble_eq_true rfl⟩, rfl, hts (.instanceMethod yX0_init) (by decide +kernel)⟩ (cu_preS sp hG hP hD) rfl rfl hl.1 rfl (lv_room (Nat.le_of_ble_eq_true rfl)) dX1_init_52 ⟨by show 2 + 2 * i + 1 + 0 + 1 + 0 ≤ 22; omega, by show 20 + 28 * i + 14 + 0 + 14 + 0 ≤ 300; omega⟩) sp hP hD hS hA (fun H locs hP hD hS => ?_)
      refine va_astq hx hb hK hP hD hS 2 1 ((cu_w3 C o b d (va_up F i (some q1)) G ++ cu_mk f g i) ++ [(q1, cu_nk)]).length 0 (f := G) rfl rfl cu_last rfl (vp_in_nI (by omega) (by decide)) dX1_init_55 (fun H locs hP hD hS => ?_)
      rw [nI_clamp (by omega)] at hP hD
      have ew : (((cu_w3 C o b d (va_up F i (some q1)) (va_up G i (some q2)) ++ cu_mk f g i) ++ [(q1, cu_nk)]) ++ [(q2, cu_nk)] : va_W) = cu_w3 C o b d (va_up F i (some q1)) (va_up G i (some q2)) ++ cu_mk (va_up f i q1) (va_up g i q2) (i + 1) := by
        have h1 : cu_mk f g i = cu_mk (va_up f i q1) (va_up g i q2) i := cu_mk_c i (fun k hk => (va_up_ne _ _ (by omega)).symm) (fun k hk => (va_up_ne _ _ (by omega)).symm)
        show _ = cu_w3 C o b d (va_up F i (some q1)) (va_up G i (some q2)) ++ (cu_mk (va_up f i q1) (va_up g i q2) i ++ [((va_up f i q1) i, cu_nk), ((va_up g i q2) i, cu_nk)])
        rw [va_up_self, va_up_self, ← h1, List.append_assoc, List.append_assoc]
        rfl
      have hP : va_P D vwCl (((cu_w3 C o b d (va_up F i (some q1)) (va_up G i (some q2)) ++ cu_mk f g i) ++ [(q1, cu_nk)]) ++ [(q2, cu_nk)]) H := hP
      have hD : va_D A (((cu_w3 C o b d (va_up F i (some q1)) (va_up G i (some q2)) ++ cu_mk f g i) ++ [(q1, cu_nk)]) ++ [(q2, cu_nk)]) := hD
      rw [ew] at hP hD
      refine lv_iinc (v := nI (i + 1)) (lv' := [(1, .int (nI (i + 1))), (0, .ref o)]) hx hb dX1_init_56 hl (k := 1) rfl (nI_1 i) (by decide) rfl (fun ls hl => ?_)
      refine lv_goto (tgt := 24) hx hb dX1_init_59 (by decide) ?_
      refine W.widen (k := 2 + 2 * (i + 1)) (n := 20 + 28 * (i + 1)) (by omega) (by omega) ?_
      exact ih (i + 1) (va_up f i q1) (va_up g i q2) (va_up F i (some q1)) (va_up G i (some q2)) (by omega) (fun k hk => by
        by_cases h : k = i
        · rw [h, va_up_self, va_up_self]
        · rw [va_up_ne _ _ h, va_up_ne _ _ h]; exact hF k (by omega)) (fun k hk => by
        by_cases h : k = i
        · rw [h, va_up_self, va_up_self]
        · rw [va_up_ne _ _ h, va_up_ne _ _ h]; exact hG2 k (by omega)) _ _ _ hP hD hS (lv_sub hl [1, 0] rfl)
  have hP : va_P D vwCl (cu_w3 C o b d (fun _ => none) (fun _ => none) ++ cu_mk (fun _ => 0) (fun _ => 0) 0) H := hP
  have hD : va_D A (cu_w3 C o b d (fun _ => none) (fun _ => none) ++ cu_mk (fun _ => 0) (fun _ => 0) 0) := hD
  exact loop 10 0 (fun _ => 0) (fun _ => 0) (fun _ => none) (fun _ => none) rfl (fun k hk => absurd hk (by omega)) (fun k hk => absurd hk (by omega)) _ _ _ hP hD hS (lv_sub hl [1, 0] rfl)
