/-! means: the one place where the run may draw -/
def cu_D (l : Launch) (D : va_G) (C : Nat → ClassId) (y : MethodName) (ws : List Cond) (rm : Room) (av : List Value) (w w' : va_W) (val : UInt64) (mc ms : Nat) : Prop :=
  ∀ sz : Nat, MetD lw_cs l y ws rm (va_Pc av (cu_B D C w sz)) (va_Qd (fun (r : UInt64) (_ : Unit) => alike64 r val = true) (fun _ t => va_P D vwCl w' t.heap) (va_A w sz)) mc ms (va_A w sz)
theorem cu_al (x : UInt64) : alike64 x x = true := by simp [alike64]
set_option maxHeartbeats 1000000 in
theorem cu_openD {l : Launch} {D : va_G} {C : Nat → ClassId} {y : MethodName} {ws ws' : List Cond} {rm : Room} {av : List Value} {w w' : va_W} {mc ms maxL : Nat} {cc : ByteArray} {own : String} {val : UInt64} (hy : plainName y.cls = true) (ho : y.cls = own) (hw : ws = Cond.code y cc maxL (some .double) :: ws') (hz : (lg_sl av).length ≤ maxL)
    (body : ∀ (p : Program) (e : Env) (s : State) (m : MethodId) (args : Array Value) (below : List Frame) (meth : Method) (c : Code) (A : Nat → Prop) (Z : State → Prop) (H0 : Heap) (ls : Array Slot), s.heap = H0 → p.tables.exec = Jvm.exec → c.code = cc → c.maxLocals = maxL → (∀ w ∈ ws, w.before args s = true) → s.vm.findClass own = some m.cls → meth.name = y.name → cu_G D C s → va_P D vwCl w H0 → va_D A w → va_S A H0 H0 [] → (∀ q : Nat, H0.size ≤ q → A q) → lv_has ls maxL (lv_args 0 av) → s.drawn.sameBut s.drawn lw_cs →
      (∀ (d1 : Drawn) (v : UInt64) (H : Heap) (locs : List Loc) (pc : Nat) (ls : Array Slot), s.drawn.sameBut d1 lw_cs → alike64 v val = true → va_P D vwCl w' H → va_S A H0 H locs → decode cc pc = .ok (.dreturn, 1) → W p l e rm (s.setDrawn d1) m args below meth c H locs mc ms Z (F0 m pc ls [.double v])) →
      W p l e rm s m args below meth c H0 [] 0 0 Z (F0 m 0 ls [])) : cu_D l D C y ws rm av w w' val mc ms := by
  intro sz
  refine MetD.ofW (cc := cc) (maxL := maxL) (ret := some .double) hy hw ?_
  intro p e s m args below meth c s₁ B hml hv hd0
  obtain ⟨rfl, hsz, hP, hD0, hG⟩ := hv
  subst hsz
  have hl := lv_entry av (n := maxL) hz
  rw [lg_entry_eq]
  refine body p e s m _ below meth c (va_A w s.heap.size) _ _ _ rfl B.exec B.bytes hml (atoms_spec (ws := ws) B.pre) (by rw [← ho]; exact findClass_of_methodNamed B.named) (name_of_methodNamed B.named B.method).1 hG hP hD0.self va_S.rf (fun q h => Or.inr h) hl hd0 ?_
  intro d1 v H locs pc ls hd1 hv hP hS hd
  have hlocks := B.notSynchronized
  exact W.endD hd1 (W.dret (v := v) B.exec B.bytes B.returns (fun t ht hW => ⟨⟨v, (), rfl, hv, by show va_P D vwCl w' t.heap; rw [ht]; exact hP⟩, hS.F ht⟩) hS.2.2 hd)
theorem k_goSum_M {N : Nat} {K : Nat → Nat → Int32} (hok : ∀ c, c < N → k_ok (K c)) : k_sum (fun c => K c 5) N = k_goSum N K := by
  refine k_sum_c N (fun c hc => ?_)
  rcases k_ok_5 (hok c hc) with e | e
  · show K c 5 = if K c 5 = 0 then 0 else 1
    rw [e]; rfl
  · show K c 5 = if K c 5 = 0 then 0 else 1
    rw [e]; rfl
theorem k_advSum_M {N : Nat} {K : Nat → Nat → Int32} (hok : ∀ c, c < N → k_ok (K c)) : k_sum (fun c => K c 5 * k_adv (K c)) N = k_advSum N K := by
  refine k_sum_c N (fun c hc => ?_)
  rcases k_ok_5 (hok c hc) with e | e
  · show K c 5 * k_adv (K c) = if K c 5 = 0 then 0 else k_adv (K c)
    rw [e, if_pos rfl, Int32.zero_mul]
  · show K c 5 * k_adv (K c) = if K c 5 = 0 then 0 else k_adv (K c)
    rw [e, if_neg (by decide), Int32.one_mul]

set_option maxHeartbeats 4000000 in
set_option maxRecDepth 100000 in
theorem m_X1_mean (l : Launch) (D : va_G) (C : Nat → ClassId) (a : Nat → Nat) (N : Nat) (hN : N ≤ 10) (mn : Int32) (K P : Nat → Nat → Int32) : cu_D l D C yX1_mean wsX1_mean { frames := 2, cells := 0, slots := 0, locals := 43 } [.ref (a 0)] (cu_cw C a (nI N) mn K P) (cu_cw C a (nI N) mn K P) (k_mean N K) 0 0 := by
  refine cu_openD (cc := cX1_mean) (maxL := 4) (own := RX1) (by decide) rfl rfl (Nat.le_of_ble_eq_true rfl) ?_
  intro p e s m args below meth c A Z H0 ls e0 hx hb hml hts hown hnm hG hP hD hS hA hl hd0 fin
  have hK := hG.1
  have hl : lv_has ls 4 [(0, .ref (a 0))] := hl
  have hiX0 : ∀ w ∈ wsX00, w ∈ wsX1_mean := by decide +kernel
  have hiX1 : ∀ w ∈ wsX10, w ∈ wsX1_mean := by decide +kernel
  refine lv_iconst (v := 0) hx hb dX1_mean_0 (by decide) ?_
  refine lv_istore_n (lv' := [(1, .int 0), (0, .ref (a 0))]) hx hb dX1_mean_1 rfl hl (by decide) rfl (fun ls hl => ?_)
  refine lv_iconst (v := 0) hx hb dX1_mean_2 (by decide) ?_
  refine lv_istore_n (lv' := [(2, .int 0), (1, .int 0), (0, .ref (a 0))]) hx hb dX1_mean_3 rfl hl (by decide) rfl (fun ls hl => ?_)
  refine lv_iconst (v := 0) hx hb dX1_mean_4 (by decide) ?_
  refine lv_istore_n (lv' := [(3, .int 0), (2, .int 0), (1, .int 0), (0, .ref (a 0))]) hx hb dX1_mean_5 rfl hl (by decide) rfl (fun ls hl => ?_)
  have loop : ∀ (j : Nat), ∀ (i : Nat) (x1 x2 : Int32), i + j = N → x1 = k_sum (fun c => if K c 5 = 0 then 0 else 1) i → x2 = k_sum (fun c => if K c 5 = 0 then 0 else k_adv (K c)) i → ∀ (H : Heap) (locs : List Loc) (ls : Array Slot), va_P D vwCl (cu_cw C a (nI N) mn K P) H → va_D A (cu_cw C a (nI N) mn K P) → va_S A H0 H locs → lv_has ls 4 [(0, .ref (a 0)), (1, .int x1), (2, .int x2), (3, .int (nI i))] → W p l e { frames := 2, cells := 0, slots := 0, locals := 43 } s m args below meth c H locs 0 0 Z (F0 m 6 ls []) := by
    intro j
    induction j with
    | zero =>
      intro i x1 x2 hj hx1 hx2 H locs ls hP hD hS hl
      have eN : i = N := by omega
      refine lv_iload_n hx hb dX1_mean_6 rfl (lv_at hl 3 rfl) ?_
      refine lv_aload_n hx hb dX1_mean_7 rfl (lv_at hl 0 rfl) ?_
      refine va_get (D := D) (ci := 1) (v := .int (nI N)) (C := RX1) (T := TX1) (N := 4) hx hb hts hiX1 hown hK hP 0 rfl rfl 2 (by decide) (hts (.fieldLink RX1 19 "CuckooShop" "present" "I") (by decide +kernel)) (fun _ h9 => h9) rfl dX1_mean_8 ?_
      refine lv_icmp_ge (tgt := 47) hx hb dX1_mean_11 (by decide) (fun c_11 => ?_) (fun c_11 => absurd (nI_le (a := N) (by omega) (by omega)) c_11)
      refine lv_iload_n hx hb dX1_mean_47 rfl (lv_at hl 1 rfl) ?_
      refine lv_if_ne (tgt := 53) hx hb dX1_mean_48 (by decide) (fun c_48 => ?_) (fun c_48 => ?_)
      · refine lv_iload_n hx hb dX1_mean_53 rfl (lv_at hl 2 rfl) ?_
        refine lv_i2d hx hb dX1_mean_54 ?_
        refine lv_iload_n hx hb dX1_mean_55 rfl (lv_at hl 1 rfl) ?_
        refine lv_i2d hx hb dX1_mean_56 ?_
        refine W.base ?_
        refine lv_ddiv_any hd0 lw_bits hx hb dX1_mean_57 (fun r d1 hal hd1 => ?_)
        exact fin d1 _ _ _ _ _ hd1 (by have eg : x1 = k_goSum N K := (by rw [hx1, eN]; rfl); have ea : x2 = k_advSum N K := (by rw [hx2, eN]; rfl); rw [eg, ea] at hal; rw [eg] at c_48; unfold k_mean; rw [if_neg c_48]; exact hal) hP hS dX1_mean_58
      · refine lv_dconst0 hx hb dX1_mean_51 ?_
        refine W.base ?_
        exact fin s.drawn _ _ _ _ _ hd0 (by have eg : x1 = k_goSum N K := (by rw [hx1, eN]; rfl); have ea : x2 = k_advSum N K := (by rw [hx2, eN]; rfl); rw [eg] at c_48; unfold k_mean; rw [if_pos c_48]; exact cu_al _) hP hS dX1_mean_52
    | succ j ih =>
      intro i x1 x2 hj hx1 hx2 H locs ls hP hD hS hl
      have hi : i < 10 := by omega
      refine lv_iload_n hx hb dX1_mean_6 rfl (lv_at hl 3 rfl) ?_
      refine lv_aload_n hx hb dX1_mean_7 rfl (lv_at hl 0 rfl) ?_
      refine va_get (D := D) (ci := 1) (v := .int (nI N)) (C := RX1) (T := TX1) (N := 4) hx hb hts hiX1 hown hK hP 0 rfl rfl 2 (by decide) (hts (.fieldLink RX1 19 "CuckooShop" "present" "I") (by decide +kernel)) (fun _ h9 => h9) rfl dX1_mean_8 ?_
      refine lv_icmp_ge (tgt := 47) hx hb dX1_mean_11 (by decide) (fun c_11 => absurd c_11 (nI_ge (b := N) (by omega) (by omega))) (fun c_11 => ?_)
      refine lv_aload_n hx hb dX1_mean_14 rfl (lv_at hl 0 rfl) ?_
      refine va_get (D := D) (ci := 1) (v := .ref (a 1)) (C := RX1) (T := TX1) (N := 4) hx hb hts hiX1 hown hK hP 0 rfl rfl 0 (by decide) (hts (.fieldLink RX1 11 "CuckooShop" "clocks" "[LCuckooShop$Clock;") (by decide +kernel)) (fun _ h9 => h9) rfl dX1_mean_15 ?_
      refine lv_iload_n hx hb dX1_mean_18 rfl (lv_at hl 3 rfl) ?_
      refine cu_aaldK hi hx hb hK hP dX1_mean_19 ?_
      refine va_getN (host := RX1) (D := D) (ci := 0) (v := .int ((K i) 5)) (C := RX0) (T := TX0) (N := 14) hx hb hts hiX0 hown hK hP (3 + i) (cu_cw_K hi) rfl 6 (by decide) (va_Nw.use rfl (hG.2.2.1 (134, "goes", "Z") (by decide +kernel))) (fun _ h9 => h9) rfl dX1_mean_20 ?_
      refine lv_if_eq (tgt := 41) hx hb dX1_mean_23 (by decide) (fun c_23 => ?_) (fun c_23 => ?_)
      · refine lv_iinc (v := (nI (i + 1))) (lv' := [(3, .int (nI (i + 1))), (0, .ref (a 0)), (1, .int x1), (2, .int x2)]) hx hb dX1_mean_41 hl (k := 3) rfl (nI_1 i) (by decide) rfl (fun ls hl => ?_)
        refine lv_goto (tgt := 6) hx hb dX1_mean_44 (by decide) ?_
        exact ih (i + 1) _ _ (by omega) (by show _ = k_sum (fun c => if K c 5 = 0 then 0 else 1) i + (fun c => if K c 5 = 0 then 0 else 1) i; simp only [if_pos c_23, Int32.add_zero]; rw [hx1]) (by show _ = k_sum (fun c => if K c 5 = 0 then 0 else k_adv (K c)) i + (fun c => if K c 5 = 0 then 0 else k_adv (K c)) i; simp only [if_pos c_23, Int32.add_zero]; rw [hx2]) _ _ _ hP hD hS (lv_sub hl [1, 2, 3, 0] rfl)
      · refine lv_iinc (v := (x1 + 1)) (lv' := [(1, .int (x1 + 1)), (0, .ref (a 0)), (2, .int x2), (3, .int (nI i))]) hx hb dX1_mean_26 hl (k := 1) rfl rfl (by decide) rfl (fun ls hl => ?_)
        refine lv_iload_n hx hb dX1_mean_29 rfl (lv_at hl 2 rfl) ?_
        refine lv_aload_n hx hb dX1_mean_30 rfl (lv_at hl 1 rfl) ?_
        refine va_get (D := D) (ci := 1) (v := .ref (a 1)) (C := RX1) (T := TX1) (N := 4) hx hb hts hiX1 hown hK hP 0 rfl rfl 0 (by decide) (hts (.fieldLink RX1 11 "CuckooShop" "clocks" "[LCuckooShop$Clock;") (by decide +kernel)) (fun _ h9 => h9) rfl dX1_mean_31 ?_
        refine lv_iload_n hx hb dX1_mean_34 rfl (lv_at hl 3 rfl) ?_
        refine cu_aaldK hi hx hb hK hP dX1_mean_35 ?_
        have sp := cu_sp.rd (cu_cw_K (C := C) (a := a) (n := (nI N)) (m := mn) (K := K) (P := P) hi)
        refine cu_callI (va_runVN (As := []) (rest := [.int x2]) ⟨hx, hb, hml, hown, hts⟩ ((m_X0_advance l D C (a (3 + i)) (K i)) H.size) ⟨(va_cnB 0 hts gX1_mean_X0_advance_n58 rfl rfl rfl (hG.2.1 (58, yX0_advance) (by decide +kernel)) (hts (.initialized RX0) (by decide +kernel)) (by decide +kernel) ⟨Nat.le_of_ble_eq_true rfl, Nat.le_of_ble_eq_true rfl⟩), hts (.instanceMethod yX0_advance) (by decide +kernel), hts (.selects RX0 yX0_advance yX0_advance) (by decide +kernel)⟩ (cu_preV (ci := 0) sp hG hP hD rfl rfl) rfl rfl hl.1 rfl (lv_room (Nat.le_of_ble_eq_true rfl)) dX1_mean_36 ⟨Nat.le_of_ble_eq_true rfl, Nat.le_of_ble_eq_true rfl⟩) sp hP hD hS hA (fun H locs hP hD hS => ?_)
        have hP : va_P D vwCl (cu_cw C a (nI N) mn K P) H := hP
        have hD : va_D A (cu_cw C a (nI N) mn K P) := hD
        refine lv_iadd hx hb dX1_mean_39 ?_
        refine lv_istore_n (lv' := [(2, .int (x2 + (k_adv (K i)))), (1, .int (x1 + 1)), (0, .ref (a 0)), (3, .int (nI i))]) hx hb dX1_mean_40 rfl hl (by decide) rfl (fun ls hl => ?_)
        refine lv_iinc (v := (nI (i + 1))) (lv' := [(3, .int (nI (i + 1))), (2, .int (x2 + (k_adv (K i)))), (1, .int (x1 + 1)), (0, .ref (a 0))]) hx hb dX1_mean_41 hl (k := 3) rfl (nI_1 i) (by decide) rfl (fun ls hl => ?_)
        refine lv_goto (tgt := 6) hx hb dX1_mean_44 (by decide) ?_
        exact ih (i + 1) _ _ (by omega) (by show _ = k_sum (fun c => if K c 5 = 0 then 0 else 1) i + (fun c => if K c 5 = 0 then 0 else 1) i; simp only [if_neg c_23]; rw [hx1]) (by show _ = k_sum (fun c => if K c 5 = 0 then 0 else k_adv (K c)) i + (fun c => if K c 5 = 0 then 0 else k_adv (K c)) i; simp only [if_neg c_23]; rw [hx2]) _ _ _ hP hD hS (lv_sub hl [3, 2, 1, 0] rfl)
  exact loop N 0 0 0 (by omega) rfl rfl _ _ _ hP hD hS (lv_sub hl [3, 2, 1, 0] rfl)

