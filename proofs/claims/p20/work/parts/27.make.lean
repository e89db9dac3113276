/-! a constructor: a world out of one object -/
def cu_N (l : Launch) (D : va_G) (C : Nat → ClassId) (y : MethodName) (ws : List Cond) (rm : Room) (av : List Value) (w : va_W) {S : Type} (post : S → Prop) (Wf : S → va_W) (mc ms : Nat) : Prop :=
  ∀ sz : Nat, Met l y ws rm (va_Pc av (cu_B D C w sz)) (va_Qv post (fun u t => va_P D vwCl (Wf u) t.heap ∧ va_D (va_A w sz) (Wf u)) (va_A w sz)) mc ms (va_A w sz)
set_option maxHeartbeats 1000000 in
theorem cu_openN {l : Launch} {D : va_G} {C : Nat → ClassId} {y : MethodName} {ws ws' : List Cond} {rm : Room} {av : List Value} {w : va_W} {S : Type} {post : S → Prop} {Wf : S → va_W} {mc ms maxL : Nat} {cc : ByteArray} {own : String} (hy : plainName y.cls = true) (ho : y.cls = own) (hw : ws = Cond.code y cc maxL none :: ws') (hz : (lg_sl av).length ≤ maxL)
    (body : ∀ (p : Program) (e : Env) (s : State) (m : MethodId) (args : Array Value) (below : List Frame) (meth : Method) (c : Code) (A : Nat → Prop) (Z : State → Prop) (H0 : Heap) (ls : Array Slot), s.heap = H0 → p.tables.exec = Jvm.exec → c.code = cc → c.maxLocals = maxL → (∀ w ∈ ws, w.before args s = true) → s.vm.findClass own = some m.cls → meth.name = y.name → cu_G D C s → va_P D vwCl w H0 → va_D A w → va_S A H0 H0 [] → (∀ q : Nat, H0.size ≤ q → A q) → lv_has ls maxL (lv_args 0 av) →
      (∀ (u : S) (H : Heap) (locs : List Loc) (pc : Nat) (ls : Array Slot), post u → va_P D vwCl (Wf u) H → va_D A (Wf u) → va_S A H0 H locs → decode cc pc = .ok (.return_, 1) → W p l e rm s m args below meth c H locs mc ms Z (F0 m pc ls [])) →
      W p l e rm s m args below meth c H0 [] 0 0 Z (F0 m 0 ls [])) : cu_N l D C y ws rm av w post Wf mc ms := by
  intro sz
  refine Met.ofW (cc := cc) (maxL := maxL) (ret := none) hy hw ?_
  intro p e s m args below meth c s₁ B hml hv
  obtain ⟨rfl, hsz, hP, hD0, hG⟩ := hv
  subst hsz
  have hl := lv_entry av (n := maxL) hz
  rw [lg_entry_eq]
  refine body p e s m _ below meth c (va_A w s.heap.size) _ _ _ rfl B.exec B.bytes hml (atoms_spec (ws := ws) B.pre) (by rw [← ho]; exact findClass_of_methodNamed B.named) (name_of_methodNamed B.named B.method).1 hG hP hD0.self va_S.rf (fun q h => Or.inr h) hl ?_
  intro u H locs pc ls hu hP hD hS hd
  exact W.vret B.exec B.bytes B.returns (fun t ht hW => ⟨⟨u, rfl, hu, by show va_P D vwCl (Wf u) t.heap; rw [ht]; exact hP, hD⟩, hS.F ht⟩) hS.2.2 hd
theorem cu_callN {p : Program} {l : Launch} {e : Env} {R : Room} {s : State} {m : MethodId} {args : Array Value} {below : List Frame} {meth : Method} {c : Code} {H : Heap} {locs : List Loc} {cells slots : Nat} {Q : State → Prop} {pc : Nat} {ls : Array Slot} {rest st0 : List Value} {a : Array Value} {A : Nat → Prop} {H0 : Heap} {mc ms : Nat} {D : va_G} {w : va_W} {S : Type} {post : S → Prop} {Wf : S → va_W}
    (hr : va_Run p l e R s m args below meth c H locs cells slots mc ms (F0 m pc ls st0) rest (va_Qv post (fun u t => va_P D vwCl (Wf u) t.heap ∧ va_D (va_A w H.size) (Wf u)) (va_A w H.size) a) (va_A w H.size)) (hF : ∀ q, va_A w H.size q → A q) (hS : va_S A H0 H locs)
    (kk : ∀ (u : S) (H1 : Heap) (locs1 : List Loc), post u → va_P D vwCl (Wf u) H1 → va_D (va_A w H.size) (Wf u) → H.size ≤ H1.size → (∀ q : Nat, q < H.size → ¬ va_A w H.size q → H1[q]? = H[q]?) → va_S A H0 H1 locs1 → W p l e R s m args below meth c H1 locs1 (cells + mc) (slots + ms) Q (F0 m (pc + 3) ls rest)) : W p l e R s m args below meth c H locs cells slots Q (F0 m pc ls st0) := by
  refine va_callv hr hS (fun q _ h => hF q h) hF (fun u t H1 locs1 ht _ hu hB hz hk hS1 => ?_)
  rw [ht] at hB
  exact kk u H1 locs1 hu hB.1 hB.2 hz hk hS1
/-! what the law makes: its shop by hand, a clock of it -/
theorem cu_newQL {p : Program} {l : Launch} {e : Env} {R : Room} {s : State} {m : MethodId} {args : Array Value} {below : List Frame} {meth : Method} {c : Code} {H : Heap} {locs : List Loc} {cells slots : Nat} {Q : State → Prop} {cc : ByteArray} {pc : Nat} {ls : Array Slot} {rest : List Value} {D : va_G} {C : Nat → ClassId} {A : Nat → Prop} {ws : va_W} {H0 : Heap}
    (hexec : p.tables.exec = Jvm.exec) (hb : c.code = cc) {own : String} {index : Nat} (hown : s.vm.findClass own = some m.cls) (hclink : (Cond.classLink own index "CuckooShopLaw$Clock").before args s = true) (hover : va_AO "CuckooShopLaw$Clock" s) (hK : va_K D vwCl (cu_tys C) s) (hP : va_P D vwCl ws H) (hD : va_D A ws) (hS : va_S A H0 H locs) (hA : ∀ q : Nat, H0.size ≤ q → A q)
    {n : Int32} {N' : Nat} (hn : ¬ n < 0) (hN : n.toNatClampNeg = N') (hbytes : N' * 4 ≤ 536870912) (hcells : cells + 1 ≤ R.cells) (hslots : slots + N' ≤ R.slots) (hdg : decode cc pc = .ok (.anewarray index, 3))
    (kk : ∀ (q : Nat) (H1 : Heap), va_P D vwCl (ws ++ [(q, .inl (C 2, N', .inr (.inr (.inr (.inr (fun _ => none))))))]) H1 → va_D A (ws ++ [(q, .inl (C 2, N', .inr (.inr (.inr (.inr (fun _ => none))))))]) → va_S A H0 H1 locs →
      W p l e R s m args below meth c H1 locs (cells + 1) (slots + N') Q (F0 m (pc + 3) ls (.ref q :: rest))) : W p l e R s m args below meth c H locs cells slots Q (F0 m pc ls (.int n :: rest)) := by
  refine va_newq hexec hb hown hclink hover hK hP hD hS hA hn hN hbytes hcells hslots hdg (fun q cA H1 hK1 hP1 hD1 hS1 => ?_)
  obtain ⟨-, -, -, -, -, h1⟩ := (hK1.2 4 (cA, .object "CuckooShopLaw$Clock") rfl).2
  obtain ⟨-, -, -, -, -, h2⟩ := (hK.2 2 (C 2, .object "CuckooShopLaw$Clock") rfl).2
  cases Option.some.inj (h1.symm.trans h2)
  exact kk q H1 hP1 hD1 hS1
theorem nI_nneg {n : Nat} (h : n < 2147483648) : ¬ nI n < 0 := by
  rw [i_lt, nI_toInt h]
  have e0 : (0 : Int32).toInt = 0 := by decide
  omega
/-- a new clock -/
def k_fresh (v : Int32) : Nat → Int32 := upd (upd (k_new (fun _ => 0)) 0 v) 1 0
set_option maxHeartbeats 4000000 in
set_option maxRecDepth 100000 in
theorem m_X3_minit (l : Launch) (D : va_G) (C : Nat → ClassId) (o : Nat) : cu_N l D C yX3_init wsX3_init { frames := 1, cells := 1, slots := 0, locals := 20 } [.ref o] [(o, .inr (3, [.null, .int 0]))] (fun _ : Nat => True) (fun r => cu_sm C o r (fun _ => 0) 0 0 (fun _ => k_new (fun _ => 0))) 1 0 := by
  refine cu_openN (cc := cX3_init) (maxL := 1) (own := RX3) (by decide) rfl rfl (Nat.le_of_ble_eq_true rfl) ?_
  intro p e s m args below meth c A Z H0 ls e0 hx hb hml hts hown hnm hG hP hD hS hA hl fin
  have hK := hG.1
  have hl : lv_has ls 1 [(0, .ref o)] := hl
  have hiX3 : ∀ w ∈ wsX30, w ∈ wsX3_init := by decide +kernel
  refine lv_aload_n hx hb dX3_init_0 rfl (lv_at hl 0 rfl) ?_
  refine W.objInit hx hb hown (hts (.methodLink RX3 1 objectInit) (by decide +kernel)) (hts (.instanceMethod objectInit) (by decide +kernel)) (hts (.code objectInit ⟨#[0xb1]⟩ 1 none) (by decide +kernel)) rfl (by rw [hml]; exact hl.1) rfl dX3_init_1 (Nat.le_of_ble_eq_true rfl) (Nat.le_of_ble_eq_true rfl) ?_
  refine W.eq (g2 := F0 m 4 ls []) rfl ?_
  refine lv_aload_n hx hb dX3_init_4 rfl (lv_at hl 0 rfl) ?_
  refine lv_iconst (v := 0) hx hb dX3_init_5 (by decide) ?_
  refine cu_newQL hx hb hown (hts (.classLink RX3 7 RX2) (by decide +kernel)) hG.2.2.2.2.2.2.2.2.2 hK hP hD hS hA (N' := 0) (by decide) rfl (Nat.le_of_ble_eq_true rfl) (Nat.le_of_ble_eq_true rfl) (Nat.le_of_ble_eq_true rfl) dX3_init_6 (fun r H hP hD hS => ?_)
  refine va_put (D := D) (ci := 3) (v := .ref r) (ty := .array (.object "CuckooShopLaw$Clock")) (C := RX3) (T := TX3) (N := 2) hx hb hts hiX3 tyX3 tyX3_ok nmX3 hown hK hP hD hS 0 rfl rfl 0 (by decide) (hts (.fieldLink RX3 9 "CuckooShopLaw$Sim" "clocks" "[LCuckooShopLaw$Clock;") (by decide +kernel)) (fun _ h9 => h9) rfl (by decide +kernel) rfl rfl (Nat.le_of_ble_eq_true rfl) dX3_init_9 (fun H locs hP hD hS => ?_)
  have hP : va_P D vwCl [(o, .inr (3, [.ref r, .int 0])), (r, .inl (C 2, 0, .inr (.inr (.inr (.inr (fun _ => none))))))] H := hP
  have hD : va_D A [(o, .inr (3, [.ref r, .int 0])), (r, .inl (C 2, 0, .inr (.inr (.inr (.inr (fun _ => none))))))] := hD
  have sp := cu_sp.suf (X := [(o, .inr (3, [.ref r, .int 0]))]) (w := [(r, .inl (C 2, 0, .inr (.inr (.inr (.inr (fun _ => none))))))]) (w' := [(r, .inl (C 2, 0, .inr (.inr (.inr (.inr (fun _ : Nat => some 0))))))]) rfl
  exact fin r _ _ _ _ trivial (cu_P_ext sp (cu_Diff.mp hD).1 hP (cu_cell_extq (fun j hj => absurd hj (Nat.not_lt_zero j)))) (cu_D_fst (W0 := [(o, .inr (3, [.ref r, .int 0])), (r, .inl (C 2, 0, .inr (.inr (.inr (.inr (fun _ => none))))))]) rfl hD) hS dX3_init_12
/-- the row that is being filled, beside the shop by hand -/
abbrev cu_nw (C : Nat → ClassId) (q n : Nat) (F : Nat → Option Nat) : va_W := [(q, .inl (C 2, n, .inr (.inr (.inr (.inr F)))))]
theorem cu_come_perm {C : Nat → ClassId} {o r : Nat} {g : Nat → Nat} {N q z : Nat} {mn : Int32} {M : Nat → Nat → Int32} {X : Nat → Int32} {F : Nat → Option Nat} :
    List.Sublist ((o, .inr (3, [.ref q, .int mn])) :: (q, .inl (C 2, N + 1, .inr (.inr (.inr (.inr F))))) :: (cu_lst N (fun i => (g i, cu_el (M i))) ++ [(z, cu_el X)])) ((o, .inr (3, [.ref q, .int mn])) :: (q, .inl (C 2, N + 1, .inr (.inr (.inr (.inr F))))) :: ((r, .inl (C 2, N, .inr (.inr (.inr (.inr (fun i => some (g i))))))) :: (cu_lst N (fun i => (g i, cu_el (M i))) ++ [(z, cu_el X)]))) :=
  List.Sublist.cons₂ _ (List.Sublist.cons₂ _ (List.Sublist.cons _ (List.Sublist.refl _)))
theorem cu_come_W {C : Nat → ClassId} {o q : Nat} {g : Nat → Nat} {N z : Nat} {mn : Int32} {M : Nat → Nat → Int32} {X : Nat → Int32} : (o, .inr (3, [.ref q, .int mn])) :: (q, .inl (C 2, N + 1, .inr (.inr (.inr (.inr (fun i => some (va_up g N z i))))))) :: (cu_lst N (fun i => (g i, cu_el (M i))) ++ [(z, cu_el X)]) = cu_sm C o q (va_up g N z) (N + 1) mn (va_up M N X) := by
  unfold cu_sm
  rw [cu_lst_s]
  show _ = (o, .inr (3, [.ref q, .int mn])) :: (q, .inl (C 2, N + 1, .inr (.inr (.inr (.inr (fun i => some (va_up g N z i))))))) :: (cu_lst N (fun i => (va_up g N z i, cu_el (va_up M N X i))) ++ [(va_up g N z N, cu_el (va_up M N X N))])
  rw [va_up_self, va_up_self, cu_lst_ext (N := N) (f := fun i => (va_up g N z i, cu_el (va_up M N X i))) (g := fun i => (g i, cu_el (M i))) (fun i hi => by show (va_up g N z i, cu_el (va_up M N X i)) = _; rw [va_up_ne _ _ (show i ≠ N by omega), va_up_ne _ _ (show i ≠ N by omega)])]
set_option maxHeartbeats 4000000 in
set_option maxRecDepth 100000 in
theorem m_X3_come (l : Launch) (D : va_G) (C : Nat → ClassId) (o r : Nat) (g : Nat → Nat) (N : Nat) (hN : N ≤ 10) (mn : Int32) (M : Nat → Nat → Int32) (v1 : Int32) : cu_GR l D C yX3_come wsX3_come { frames := 2, cells := 2, slots := 40, locals := 60 } [.ref o, .int v1] (cu_sm C o r g N mn M) cu_xN (fun _ : Nat => True) (fun q z => cu_sm C o q (va_up g N z) (N + 1) mn (va_up M N (k_fresh v1))) 2 40 := by
  refine cu_openGR (cc := cX3_come) (maxL := 4) (own := RX3) (by decide) rfl rfl (Or.inl ⟨_, rfl⟩) (Nat.le_of_ble_eq_true rfl) ?_
  intro p e s m args below meth c A Z H0 ls e0 hx hb hml hts hown hnm hG hP hD hS hA hl _ fin
  have hK := hG.1
  have hl : lv_has ls 4 [(0, .ref o), (1, .int v1)] := hl
  have hiX3 : ∀ w ∈ wsX30, w ∈ wsX3_come := by decide +kernel
  have hiX2 : ∀ w ∈ wsX20, w ∈ wsX3_come := by decide +kernel
  have hov : va_AO "CuckooShopLaw$Clock" s := hG.2.2.2.2.2.2.2.2.2
  have hfs : ∀ j, j < 14 → defaultValue (tyX2 j) = vp_V (cu_lk (fun _ => 0)) j := by
    intro j hj
    have h9 : j = 0 ∨ j = 1 ∨ j = 2 ∨ j = 3 ∨ j = 4 ∨ j = 5 ∨ j = 6 ∨ j = 7 ∨ j = 8 ∨ j = 9 ∨ j = 10 ∨ j = 11 ∨ j = 12 ∨ j = 13 := by omega
    rcases h9 with rfl | rfl | rfl | rfl | rfl | rfl | rfl | rfl | rfl | rfl | rfl | rfl | rfl | rfl <;> rfl
  refine lv_aload_n hx hb dX3_come_0 rfl (lv_at hl 0 rfl) ?_
  refine va_get (D := D) (ci := 3) (v := .ref r) (C := RX3) (T := TX3) (N := 2) hx hb hts hiX3 hown hK hP 0 rfl rfl 0 (by decide) (hts (.fieldLink RX3 9 "CuckooShopLaw$Sim" "clocks" "[LCuckooShopLaw$Clock;") (by decide +kernel)) (fun _ h9 => h9) rfl dX3_come_1 ?_
  refine va_alen (v := nI N) hx hb hK hP 1 2 rfl rfl rfl dX3_come_4 ?_
  refine lv_iconst (v := 1) hx hb dX3_come_5 (by decide) ?_
  refine lv_iadd hx hb dX3_come_6 ?_
  refine cu_top (x' := nI (N + 1)) (nI_1 N) ?_
  refine cu_newQL hx hb hown (hts (.classLink RX3 7 RX2) (by decide +kernel)) hov hK hP hD hS hA (N' := N + 1) (nI_nneg (by omega)) (nI_clamp (by omega)) (by omega) (Nat.le_of_ble_eq_true rfl) (by show 0 + (N + 1) ≤ 40; omega) dX3_come_7 (fun q H hP hD hS => ?_)
  refine lv_astore_n (lv' := [(2, .ref q), (0, .ref o), (1, .int v1)]) hx hb dX3_come_10 rfl hl (by decide) rfl (fun ls hl => ?_)
  refine lv_iconst (v := 0) hx hb dX3_come_11 (by decide) ?_
  refine lv_istore_n (lv' := [(3, .int (nI 0)), (2, .ref q), (0, .ref o), (1, .int v1)]) hx hb dX3_come_12 rfl hl (by decide) rfl (fun ls hl => ?_)
  refine W.widen (k := 1) (n := 11) (Nat.le_refl _) (by omega) ?_
  have loop : ∀ (j i : Nat) (F : Nat → Option Nat), i + j = N → (∀ k, k < i → F k = some (g k)) → ∀ (H : Heap) (locs : List Loc) (ls : Array Slot), va_P D vwCl (cu_sm C o r g N mn M ++ cu_nw C q (N + 1) F) H → va_D A (cu_sm C o r g N mn M ++ cu_nw C q (N + 1) F) → va_S A H0 H locs → lv_has ls 4 [(3, .int (nI i)), (2, .ref q), (0, .ref o), (1, .int v1)] →
      W p l e { frames := 2, cells := 2, slots := 40, locals := 60 } s m args below meth c H locs 1 11 Z (F0 m 13 ls []) := by
    intro j
    induction j with
    | zero =>
      intro i F hj hF H locs ls hP hD hS hl
      obtain rfl : i = N := by omega
      refine lv_iload_n hx hb dX3_come_13 rfl (lv_at hl 0 rfl) ?_
      refine lv_aload_n hx hb dX3_come_14 rfl (lv_at hl 2 rfl) ?_
      refine va_get (D := D) (ci := 3) (v := .ref r) (C := RX3) (T := TX3) (N := 2) hx hb hts hiX3 hown hK hP 0 rfl rfl 0 (by decide) (hts (.fieldLink RX3 9 "CuckooShopLaw$Sim" "clocks" "[LCuckooShopLaw$Clock;") (by decide +kernel)) (fun _ h9 => h9) rfl dX3_come_15 ?_
      refine va_alen (v := nI i) hx hb hK hP 1 2 rfl rfl rfl dX3_come_18 ?_
      refine lv_icmp_ge (tgt := 37) hx hb dX3_come_19 (by decide) (fun c_19 => ?_) (fun c_19 => absurd (nI_le (a := i) (by omega) (by omega)) c_19)
      refine va_new (ci := 2) (C := RX2) (T := TX2) (N := 14) (fs := cu_lk (fun _ => 0)) hx hb hts hiX2 tyX2 tyX2_ok hown (hts (.classLink RX3 7 RX2) (by decide +kernel)) (hts (.instantiable RX2 14) (by decide +kernel)) (hts (.initialized RX2) (by decide +kernel)) hK hP hD hS hA rfl hfs (Nat.le_of_ble_eq_true rfl) (Nat.le_of_ble_eq_true rfl) dX3_come_37 (fun z H hP hD hS => ?_)
      refine lv_dup hx hb dX3_come_40 rfl ?_
      have sp := cu_sp.suf (X := cu_sm C o r g i mn M ++ cu_nw C q (i + 1) F) (w := cu_wl z (fun _ => 0)) (w' := cu_wl z (k_new (fun _ => 0))) rfl
      refine cu_callV (va_runIN (As := []) (rest := [.ref z]) ⟨hx, hb, hml, hown, hts⟩ (m_X2_minit l D C z H.size) ⟨(va_cnB 0 hts gX3_come_X2_init_n24 rfl rfl rfl (hG.2.2.2.2.1 (RX3, 24, yX2_init) (by decide +kernel)) (hts (.initialized RX2) (by decide +kernel)) (by decide +kernel) ⟨Nat.le_of_ble_eq_true rfl, Nat.le_of_ble_eq_true rfl⟩), rfl, hts (.instanceMethod yX2_init) (by decide +kernel)⟩ (cu_preS sp hG hP hD) rfl rfl hl.1 rfl (lv_room (Nat.le_of_ble_eq_true rfl)) dX3_come_41 ⟨Nat.le_of_ble_eq_true rfl, Nat.le_of_ble_eq_true rfl⟩) sp hP hD hS hA (fun H locs hP hD hS => ?_)
      refine lv_astore_n (lv' := [(3, .ref z), (2, .ref q), (0, .ref o), (1, .int v1)]) hx hb dX3_come_44 rfl hl (by decide) rfl (fun ls hl => ?_)
      refine lv_aload_n hx hb dX3_come_45 rfl (lv_at hl 0 rfl) ?_
      refine lv_iload_n hx hb dX3_come_46 rfl (lv_at hl 3 rfl) ?_
      have sp9 := cu_sp.suf (X := cu_sm C o r g i mn M ++ cu_nw C q (i + 1) F) (w := cu_wl z (k_new (fun _ => 0))) (w' := cu_wl z (upd (k_new (fun _ => 0)) 0 v1)) rfl
      have hD9 := hD
      obtain ⟨qa, ha⟩ := List.getElem?_of_mem (cu_sp.mem sp9)
      refine va_put (D := D) (ci := 2) (v := .int v1) (ty := .int) (C := RX2) (T := TX2) (N := 14) hx hb hts hiX2 tyX2 tyX2_ok nmX2 hown hK hP hD hS qa ha rfl 3 (by decide) (hts (.fieldLink RX3 25 "CuckooShopLaw$Clock" "shows" "I") (by decide +kernel)) (fun _ h9 => h9) rfl (by decide +kernel) rfl rfl (Nat.le_of_ble_eq_true rfl) dX3_come_47 (fun H locs hP hD hS => ?_)
      have hP : va_P D vwCl ((cu_sm C o r g i mn M ++ cu_nw C q (i + 1) F) ++ cu_wl z (upd (k_new (fun _ => 0)) 0 v1)) H := cu_sp.put sp9 ha hD9 hP
      have hD : va_D A ((cu_sm C o r g i mn M ++ cu_nw C q (i + 1) F) ++ cu_wl z (upd (k_new (fun _ => 0)) 0 v1)) := cu_D_fst sp9.fst hD9
      refine lv_aload_n hx hb dX3_come_50 rfl (lv_at hl 1 rfl) ?_
      refine lv_aload_n hx hb dX3_come_51 rfl (lv_at hl 2 rfl) ?_
      refine va_get (D := D) (ci := 3) (v := .ref r) (C := RX3) (T := TX3) (N := 2) hx hb hts hiX3 hown hK hP 0 rfl rfl 0 (by decide) (hts (.fieldLink RX3 9 "CuckooShopLaw$Sim" "clocks" "[LCuckooShopLaw$Clock;") (by decide +kernel)) (fun _ h9 => h9) rfl dX3_come_52 ?_
      refine va_alen (v := nI i) hx hb hK hP 1 2 rfl rfl rfl dX3_come_55 ?_
      refine lv_aload_n hx hb dX3_come_56 rfl (lv_at hl 0 rfl) ?_
      have sp8 : cu_sp ((cu_sm C o r g i mn M ++ cu_nw C q (i + 1) F) ++ cu_wl z (upd (k_new (fun _ => 0)) 0 v1)) (cu_nw C q (i + 1) F) ((cu_sm C o r g i mn M ++ cu_nw C q (i + 1) (va_up F (nI i).toNatClampNeg (some z))) ++ cu_wl z (upd (k_new (fun _ => 0)) 0 v1)) (cu_nw C q (i + 1) (va_up F (nI i).toNatClampNeg (some z))) := cu_sp.inL (cu_sp.inR (cu_sp.all rfl))
      have hD8 := hD
      obtain ⟨qb, hqb⟩ := List.getElem?_of_mem (cu_sp.mem sp8)
      obtain ⟨qc, hqc⟩ := List.getElem?_of_mem (show (z, cu_el (upd (k_new (fun _ => 0)) 0 v1)) ∈ ((cu_sm C o r g i mn M ++ cu_nw C q (i + 1) F) ++ cu_wl z (upd (k_new (fun _ => 0)) 0 v1)) from List.mem_append_right _ (List.mem_singleton_self _))
      refine va_astq (r := (RX2, TX2, 14)) hx hb hK hP hD hS qb 2 qc 2 hqb rfl hqc rfl (vp_in_nI (by omega) (by omega)) dX3_come_57 (fun H locs hP hD hS => ?_)
      have hP := cu_sp.put sp8 hqb hD8 hP
      have hD : va_D A ((cu_sm C o r g i mn M ++ cu_nw C q (i + 1) (va_up F (nI i).toNatClampNeg (some z))) ++ cu_wl z (upd (k_new (fun _ => 0)) 0 v1)) := cu_D_fst sp8.fst hD8
      rw [nI_clamp (show i < 2 ^ 31 by omega)] at hP hD
      refine lv_aload_n hx hb dX3_come_58 rfl (lv_at hl 2 rfl) ?_
      refine lv_aload_n hx hb dX3_come_59 rfl (lv_at hl 1 rfl) ?_
      refine va_put (D := D) (ci := 3) (v := .ref q) (ty := .array (.object "CuckooShopLaw$Clock")) (C := RX3) (T := TX3) (N := 2) hx hb hts hiX3 tyX3 tyX3_ok nmX3 hown hK hP hD hS 0 rfl rfl 0 (by decide) (hts (.fieldLink RX3 9 "CuckooShopLaw$Sim" "clocks" "[LCuckooShopLaw$Clock;") (by decide +kernel)) (fun _ h9 => h9) rfl (by decide +kernel) rfl rfl (Nat.le_of_ble_eq_true rfl) dX3_come_60 (fun H locs hP hD hS => ?_)
      have hP : va_P D vwCl (((o, .inr (3, [.ref q, .int mn])) :: (r, .inl (C 2, i, .inr (.inr (.inr (.inr (fun k => some (g k))))))) :: cu_lst i (fun k => (g k, cu_el (M k)))) ++ cu_nw C q (i + 1) (va_up F i (some z)) ++ cu_wl z (upd (k_new (fun _ => 0)) 0 v1)) H := hP
      have hD : va_D A (((o, .inr (3, [.ref q, .int mn])) :: (r, .inl (C 2, i, .inr (.inr (.inr (.inr (fun k => some (g k))))))) :: cu_lst i (fun k => (g k, cu_el (M k)))) ++ cu_nw C q (i + 1) (va_up F i (some z)) ++ cu_wl z (upd (k_new (fun _ => 0)) 0 v1)) := hD
      obtain ⟨hP, hD⟩ := cu_perm (W1 := (o, .inr (3, [.ref q, .int mn])) :: (q, .inl (C 2, i + 1, .inr (.inr (.inr (.inr (va_up F i (some z))))))) :: ((r, .inl (C 2, i, .inr (.inr (.inr (.inr (fun k => some (g k))))))) :: (cu_lst i (fun k => (g k, cu_el (M k))) ++ cu_wl z (upd (k_new (fun _ => 0)) 0 v1)))) (List.Perm.cons _ (by
        refine List.Perm.trans (List.perm_middle (l₁ := (r, .inl (C 2, i, .inr (.inr (.inr (.inr (fun k => some (g k))))))) :: cu_lst i (fun k => (g k, cu_el (M k)))) (a := (q, .inl (C 2, i + 1, .inr (.inr (.inr (.inr (va_up F i (some z)))))))) (l₂ := cu_wl z (upd (k_new (fun _ => 0)) 0 v1))).symm (List.Perm.of_eq ?_)
        exact (List.append_assoc ((r, .inl (C 2, i, .inr (.inr (.inr (.inr (fun k => some (g k))))))) :: cu_lst i (fun k => (g k, cu_el (M k)))) (cu_nw C q (i + 1) (va_up F i (some z))) (cu_wl z (upd (k_new (fun _ => 0)) 0 v1))).symm)) hP hD
      obtain ⟨hP, hD⟩ := cu_less cu_come_perm hP hD
      have sp7 := cu_sp.mid (X := [(o, .inr (3, [.ref q, .int mn]))]) (w := cu_nw C q (i + 1) (va_up F i (some z))) (w' := cu_nw C q (i + 1) (fun k => some (va_up g i z k))) (Y := cu_lst i (fun k => (g k, cu_el (M k))) ++ cu_wl z (upd (k_new (fun _ => 0)) 0 v1)) rfl
      have hP := cu_P_ext sp7 (cu_Diff.mp hD).1 hP (cu_cell_extq (fun k hk => by
        by_cases e : k = i
        · subst e; rw [va_up_self, va_up_self]
        · rw [va_up_ne _ _ e, va_up_ne _ _ e]; exact hF k (by omega)))
      have hD := cu_D_fst sp7.fst hD
      have eW := cu_come_W (C := C) (o := o) (q := q) (g := g) (N := i) (z := z) (mn := mn) (M := M) (X := k_fresh v1)
      refine lv_aload_n hx hb dX3_come_63 rfl (lv_at hl 0 rfl) ?_
      refine W.widen (k := 2) (n := 40) (Nat.le_of_ble_eq_true rfl) (Nat.le_of_ble_eq_true rfl) ?_
      exact fin q z _ _ _ _ trivial (eW ▸ hP) (eW ▸ hD) hS dX3_come_64
    | succ j ih =>
      intro i F hj hF H locs ls hP hD hS hl
      refine lv_iload_n hx hb dX3_come_13 rfl (lv_at hl 0 rfl) ?_
      refine lv_aload_n hx hb dX3_come_14 rfl (lv_at hl 2 rfl) ?_
      refine va_get (D := D) (ci := 3) (v := .ref r) (C := RX3) (T := TX3) (N := 2) hx hb hts hiX3 hown hK hP 0 rfl rfl 0 (by decide) (hts (.fieldLink RX3 9 "CuckooShopLaw$Sim" "clocks" "[LCuckooShopLaw$Clock;") (by decide +kernel)) (fun _ h9 => h9) rfl dX3_come_15 ?_
      refine va_alen (v := nI N) hx hb hK hP 1 2 rfl rfl rfl dX3_come_18 ?_
      refine lv_icmp_ge (tgt := 37) hx hb dX3_come_19 (by decide) (fun c_19 => absurd c_19 (nI_ge (b := N) (by omega) (by omega))) (fun c_19 => ?_)
      refine lv_aload_n hx hb dX3_come_22 rfl (lv_at hl 1 rfl) ?_
      refine lv_iload_n hx hb dX3_come_23 rfl (lv_at hl 0 rfl) ?_
      refine lv_aload_n hx hb dX3_come_24 rfl (lv_at hl 2 rfl) ?_
      refine va_get (D := D) (ci := 3) (v := .ref r) (C := RX3) (T := TX3) (N := 2) hx hb hts hiX3 hown hK hP 0 rfl rfl 0 (by decide) (hts (.fieldLink RX3 9 "CuckooShopLaw$Sim" "clocks" "[LCuckooShopLaw$Clock;") (by decide +kernel)) (fun _ h9 => h9) rfl dX3_come_25 ?_
      refine lv_iload_n hx hb dX3_come_28 rfl (lv_at hl 0 rfl) ?_
      refine va_aldq hx hb hK hP 1 2 rfl rfl (vp_in_nI (n := i) (by omega) (by omega)) dX3_come_29 ?_
      rw [nI_clamp (show i < 2 ^ 31 by omega)]
      have sp8 : cu_sp (cu_sm C o r g N mn M ++ cu_nw C q (N + 1) F) (cu_nw C q (N + 1) F) (cu_sm C o r g N mn M ++ cu_nw C q (N + 1) (va_up F (nI i).toNatClampNeg (some (g i)))) (cu_nw C q (N + 1) (va_up F (nI i).toNatClampNeg (some (g i)))) := cu_sp.inR (cu_sp.all rfl)
      have hD8 := hD
      obtain ⟨qb, hqb⟩ := List.getElem?_of_mem (cu_sp.mem sp8)
      obtain ⟨qc, hqc⟩ := List.getElem?_of_mem (cu_sp.mem (cu_sp.inL (Y := cu_nw C q (N + 1) F) (cu_sm_rd (C := C) (o := o) (r := r) (g := g) (N := N) (mn := mn) (M := M) (i := i) (X := M i) (by omega) rfl)))
      refine va_astq (r := (RX2, TX2, 14)) hx hb hK hP hD hS qb 2 qc 2 hqb rfl hqc rfl (vp_in_nI (by omega) (by omega)) dX3_come_30 (fun H locs hP hD hS => ?_)
      have hP := cu_sp.put sp8 hqb hD8 hP
      have hD : va_D A (cu_sm C o r g N mn M ++ cu_nw C q (N + 1) (va_up F (nI i).toNatClampNeg (some (g i)))) := cu_D_fst sp8.fst hD8
      rw [nI_clamp (show i < 2 ^ 31 by omega)] at hP hD
      refine lv_iinc (v := nI (i + 1)) (lv' := [(3, .int (nI (i + 1))), (2, .ref q), (0, .ref o), (1, .int v1)]) hx hb dX3_come_31 hl (k := 0) rfl (nI_1 i) (by decide) rfl (fun ls hl => ?_)
      refine lv_goto (tgt := 13) hx hb dX3_come_34 (by decide) ?_
      exact ih (i + 1) (va_up F i (some (g i))) (by omega) (fun k hk => by
        by_cases e : k = i
        · subst e; rw [va_up_self]
        · rw [va_up_ne _ _ e]; exact hF k (by omega)) _ _ _ hP hD hS hl
  exact loop N 0 _ (by omega) (fun k hk => absurd hk (Nat.not_lt_zero k)) _ _ _ hP hD hS hl
