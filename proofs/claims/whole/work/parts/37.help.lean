/-! the law's helpers: each calls the shop, tells by a number what was thrown, puts the answer down -/
abbrev cu_ou (C : Nat → ClassId) (out : Nat) (f : Nat → Int64) : va_W := [(out, .inl (C 2, 1, .inr (.inl f)))]
def k_sel {α : Type} (o : Option String) (a b : α) : α := match o with
  | none => a
  | some _ => b
def k_hc (x : String) (o : Option String) : Int32 := match o with
  | none => 0
  | some E => if E = x then 1 else 2
theorem cu_set_last {X : va_W} {x y : Nat × va_E} : (X ++ [x]).set X.length y = X ++ [y] := by simp
theorem k_or_x {a b : Option String} {E : String} (h : a.or b = some E) : a = some E ∨ b = some E := by
  cases a with
  | none => exact Or.inr h
  | some z => exact Or.inl h
theorem k_ox_T {v : Int32} {E : String} (h : k_oT v = some E) : E = x_IAE := by
  unfold k_oT at h
  split at h
  · exact (Option.some.inj h).symm
  · cases h
theorem k_ox_M {v : Int32} {E : String} (h : k_oM v = some E) : E = x_IAE := by
  unfold k_oM at h
  split at h
  · exact (Option.some.inj h).symm
  · cases h
theorem k_ox_C {N : Nat} {v : Int32} {E : String} (h : k_oC N v = some E) : E = x_IOB := by
  unfold k_oC at h
  split at h
  · exact (Option.some.inj h).symm
  · split at h
    · cases h
    · exact (Option.some.inj h).symm
theorem k_ox_N {N : Nat} {E : String} (h : k_oN N = some E) : E = x_ISE := by
  unfold k_oN at h
  split at h
  · cases h
  · exact (Option.some.inj h).symm
theorem k_ox_G {a b s : Int32} {E : String} (h : k_oG a b s = some E) : E = x_IAE := by
  unfold k_oG at h
  split at h
  · exact (Option.some.inj h).symm
  · split at h
    · exact (Option.some.inj h).symm
    · split at h
      · exact (Option.some.inj h).symm
      · cases h
theorem k_ox_E {v : Int32} {E : String} (h : k_oE v = some E) : E = x_IAE := by
  unfold k_oE at h
  split at h
  · cases h
  · split at h
    · cases h
    · split at h
      · cases h
      · exact (Option.some.inj h).symm
theorem k_ox_S {v t : Int32} {E : String} (h : k_oS v t = some E) : E = x_IAE := by
  unfold k_oS at h
  rcases k_or_x h with h | h
  · split at h
    · cases h
    · exact k_ox_T h
  · rcases k_or_x h with h | h
    · exact k_ox_T h
    · unfold k_oS3 at h
      split at h
      · split at h
        · cases h
        · exact (Option.some.inj h).symm
      · cases h
theorem k_ox_R {v : Int32} {E : String} (h : k_oR v = some E) : E = x_IOB := by
  unfold k_oR at h
  split at h
  · exact (Option.some.inj h).symm
  · cases h
theorem k_ox_Y {v : Int32} {E : String} (h : k_oY v = some E) : E = x_IOB := by
  unfold k_oY at h
  split at h
  · exact (Option.some.inj h).symm
  · cases h
theorem k_ox_F {v : Int32} {E : String} (h : k_oF v = some E) : E = x_IOB := by
  unfold k_oF at h
  split at h
  · exact (Option.some.inj h).symm
  · cases h
def cu_H (l : Launch) (D : va_G) (C : Nat → ClassId) (y : MethodName) (ws : List Cond) (rm : Room) (av : List Value) (w w' : va_W) (val : Int32) (mc ms : Nat) : Prop :=
  ∀ sz : Nat, Met l y ws rm (va_Pc av (cu_BT D C w sz)) (va_Qi (fun (r : Int32) (_ : Unit) => r = val) (fun _ t => va_P D vwCl w' t.heap) (va_A w sz)) mc ms (va_A w sz)
set_option maxHeartbeats 1000000 in
theorem cu_openH {l : Launch} {D : va_G} {C : Nat → ClassId} {y : MethodName} {ws ws' : List Cond} {rm : Room} {av : List Value} {w w' : va_W} {mc ms maxL : Nat} {cc : ByteArray} {val : Int32} {hh : List (Nat × Nat × Nat × Nat)} (hy : plainName y.cls = true) (ho : y.cls = RL) (hw : ws = Cond.codeWith y cc maxL (some .int) hh :: ws') (hz : (lg_sl av).length ≤ maxL)
    (body : ∀ (p : Program) (e : Env) (s : State) (m : MethodId) (args : Array Value) (below : List Frame) (meth : Method) (c : Code) (A : Nat → Prop) (Z : State → Prop) (H0 : Heap) (ls : Array Slot), s.heap = H0 → p.tables.exec = Jvm.exec → c.code = cc → c.maxLocals = maxL → (∀ w ∈ ws, w.before args s = true) → s.vm.findClass RL = some m.cls → c.exceptionTable.toList = tableOf hh → cu_G D C s → va_P D vwCl w H0 → va_D A w → va_S A H0 H0 [] → (∀ q : Nat, H0.size ≤ q → A q) → lv_has ls maxL (lv_args 0 av) → cu_T A s H0 →
      (∀ (v : Int32) (H : Heap) (locs : List Loc) (pc : Nat) (ls : Array Slot), narrow .int (.int v) = .int v → v = val → va_P D vwCl w' H → va_S A H0 H locs → decode cc pc = .ok (.ireturn, 1) → W p l e rm s m args below meth c H locs mc ms Z (F0 m pc ls [.int v])) →
      W p l e rm s m args below meth c H0 [] 0 0 Z (F0 m 0 ls [])) : cu_H l D C y ws rm av w w' val mc ms := by
  intro sz
  refine va_MetW (cc := cc) (maxL := maxL) (ret := some .int) (hh := hh) hy hw ?_
  intro p e s m args below meth c s₁ B hml hv
  obtain ⟨rfl, ⟨hsz, hP, hD0, hG⟩, hT⟩ := hv
  subst hsz
  have hl := lv_entry av (n := maxL) hz
  have hts := atoms_spec (ws := ws) B.pre
  rw [lg_entry_eq]
  refine body p e s m _ below meth c (va_A w s.heap.size) _ _ _ rfl B.exec B.bytes hml hts (by rw [← ho]; exact findClass_of_methodNamed B.named) (vx_table (x := y) B (hts _ (by rw [hw]; exact List.mem_cons_self))) hG hP hD0.self va_S.rf (fun q h => Or.inr h) hl hT ?_
  intro v H locs pc ls hn hv hP hS hd
  exact W.zret (v := v) B.exec B.bytes B.returns hn (fun t ht hW => ⟨⟨v, (), rfl, hv, by show va_P D vwCl w' t.heap; rw [ht]; exact hP⟩, hS.F ht⟩) hS.2.2 hd

set_option maxHeartbeats 4000000 in
set_option maxRecDepth 100000 in
theorem m_L_come (l : Launch) (hlf : l.stackTraces = false) (D : va_G) (C : Nat → ClassId) (a : Nat → Nat) (N : Nat) (hN : N ≤ 10) (mn : Int32) (K P : Nat → Nat → Int32) (v1 : Int32) (out : Nat) (f : Nat → Int64) : cu_H l D C yL_come wsL_come { frames := 8, cells := 2, slots := 12, locals := 123 } [.ref (a 0), .int v1, .ref out] ((cu_cw C a (nI N) mn K P) ++ cu_ou C out f) (k_sel ((k_oT v1).or (k_oN N)) ((cu_cw C a (nI (N + 1)) mn (va_up K N (upd (upd (K N) 0 v1) 1 0)) P) ++ cu_ou C out (vp_updL f 0 ((nI N)).toInt64)) ((cu_cw C a (nI N) mn K P) ++ cu_ou C out f)) (k_hc x_IAE ((k_oT v1).or (k_oN N))) 2 12 := by
  refine cu_openH (cc := cL_come) (maxL := 4) (by decide) rfl rfl (Nat.le_of_ble_eq_true rfl) ?_
  intro p e s m args below meth c A Z H0 ls e0 hx hb hml hts hown htab hG hP hD hS hA hl hT fin
  have hK := hG.1
  have hl : lv_has ls 4 [(0, .ref (a 0)), (1, .int v1), (2, .ref out)] := hl
  refine lv_aload_n hx hb dL_come_0 rfl (lv_at hl 2 rfl) ?_
  refine lv_iconst (v := 0) hx hb dL_come_1 (by decide) ?_
  refine lv_aload_n hx hb dL_come_2 rfl (lv_at hl 0 rfl) ?_
  refine lv_iload_n hx hb dL_come_3 rfl (lv_at hl 1 rfl) ?_
  have sp := cu_sp.pre (w := (cu_cw C a (nI N) mn K P)) (w' := (cu_cw C a (nI (N + 1)) mn (va_up K N (upd (upd (K N) 0 v1) 1 0)) P)) (Y := cu_ou C out f) cu_cw_fst
  refine cu_callXI (vx_runV (As := [.int v1]) (rest := [.int 0, .ref out]) ⟨hx, hb, hml, hown, hts⟩ ((m_X1_come l hlf D C a N hN mn K P v1) H0.size) (cwV 1 hts gL_come_X1_come rfl rfl rfl (by decide +kernel) ⟨Nat.le_of_ble_eq_true rfl, Nat.le_of_ble_eq_true rfl⟩) (cu_preXV (ci := 1) sp hG hP hD hT hS hA rfl rfl) rfl rfl hl.1 rfl (lv_room (Nat.le_of_ble_eq_true rfl)) dL_come_4 ⟨Nat.le_of_ble_eq_true rfl, Nat.le_of_ble_eq_true rfl⟩) sp hP hD hS hA (fun E ce q9 H locs hoE hP hD hS hce hcv hcl => ?_) (fun H locs hoN hP hD hS => ?_)
  · have hE : E = x_IAE ∨ E = x_ISE := (k_or_x hoE).elim (fun h => Or.inl (k_ox_T h)) (fun h => Or.inr (k_ox_N h))
    rcases hE with rfl | rfl
    · refine vx_catch hown [] ⟨0, 9, 12, 13⟩ [⟨0, 9, 15, 15⟩] htab (fun z hz => absurd hz List.not_mem_nil) rfl (by decide) (hts (.classLink RL 13 x_IAE) (by decide +kernel)) (va_Nw.use rfl (hG.2.2.2.1 (x_IAE, x_IAE) (by decide +kernel))) hce hcv hcl ?_
      refine W.eq (g2 := F0 m 12 ls [.ref q9]) rfl ?_
      refine lv_astore_n (lv' := [(3, .ref q9), (0, .ref (a 0)), (1, .int v1), (2, .ref out)]) hx hb dL_come_12 rfl hl (by decide) rfl (fun ls hl => ?_)
      refine lv_iconst (v := 1) hx hb dL_come_13 (by decide) ?_
      exact fin _ _ _ _ _ rfl (by rw [hoE]; decide) (by rw [hoE]; exact hP) hS dL_come_14
    · refine vx_catch hown [⟨0, 9, 12, 13⟩] ⟨0, 9, 15, 15⟩ [] htab (fun z hz => by rw [List.mem_singleton.mp hz]; exact Or.inr ⟨by decide, x_IAE, hts (.classLink RL 13 x_IAE) (by decide +kernel), hG.2.2.2.2.1 (x_ISE, x_IAE) (by decide +kernel)⟩) rfl (by decide) (hts (.classLink RL 15 x_ISE) (by decide +kernel)) (va_Nw.use rfl (hG.2.2.2.1 (x_ISE, x_ISE) (by decide +kernel))) hce hcv hcl ?_
      refine W.eq (g2 := F0 m 15 ls [.ref q9]) rfl ?_
      refine lv_astore_n (lv' := [(3, .ref q9), (0, .ref (a 0)), (1, .int v1), (2, .ref out)]) hx hb dL_come_15 rfl hl (by decide) rfl (fun ls hl => ?_)
      refine lv_iconst (v := 2) hx hb dL_come_16 (by decide) ?_
      exact fin _ _ _ _ _ rfl (by rw [hoE]; decide) (by rw [hoE]; exact hP) hS dL_come_17
  · refine lv_i2l (v := ((nI N)).toInt64) hx hb dL_come_7 rfl ?_
    refine va_last hx hb hK hP hD hS ((cu_cw C a (nI (N + 1)) mn (va_up K N (upd (upd (K N) 0 v1) 1 0)) P)).length 2 cu_last rfl (vp_in_nI (n := 0) (by decide) (by decide)) dL_come_8 (fun H locs hP hD hS => ?_)
    rw [cu_set_last] at hP hD
    refine lv_goto (tgt := 18) hx hb dL_come_9 (by decide) ?_
    refine lv_iconst (v := 0) hx hb dL_come_18 (by decide) ?_
    exact fin _ _ _ _ _ rfl (by rw [hoN]; rfl) (by rw [hoN]; exact hP) hS dL_come_19

set_option maxHeartbeats 4000000 in
set_option maxRecDepth 100000 in
theorem m_L_gear (l : Launch) (hlf : l.stackTraces = false) (D : va_G) (C : Nat → ClassId) (a : Nat → Nat) (N : Nat) (hN : N ≤ 10) (mn : Int32) (K P : Nat → Nat → Int32) (v1 : Int32) (v2 : Int32) (v3 : Int32) (v4 : Int32) (out : Nat) (f : Nat → Int64) : cu_H l D C yL_gear wsL_gear { frames := 8, cells := 2, slots := 12, locals := 127 } [.ref (a 0), .int v1, .int v2, .int v3, .int v4, .ref out] ((cu_cw C a (nI N) mn K P) ++ cu_ou C out f) (k_sel ((k_oC N v1).or (k_oG v2 v3 v4)) ((cu_cw C a (nI N) mn (va_up K v1.toNatClampNeg (upd (upd (upd (K v1.toNatClampNeg) 9 v2) 10 v3) 11 v4)) P) ++ cu_ou C out (vp_updL f 0 ((k_adv (upd (upd (upd (K v1.toNatClampNeg) 9 v2) 10 v3) 11 v4))).toInt64)) ((cu_cw C a (nI N) mn K P) ++ cu_ou C out f)) (k_hc x_IOB ((k_oC N v1).or (k_oG v2 v3 v4))) 2 12 := by
  refine cu_openH (cc := cL_gear) (maxL := 7) (by decide) rfl rfl (Nat.le_of_ble_eq_true rfl) ?_
  intro p e s m args below meth c A Z H0 ls e0 hx hb hml hts hown htab hG hP hD hS hA hl hT fin
  have hK := hG.1
  have hl : lv_has ls 7 [(0, .ref (a 0)), (1, .int v1), (2, .int v2), (3, .int v3), (4, .int v4), (5, .ref out)] := hl
  refine lv_aload hx hb dL_gear_0 (lv_at hl 5 rfl) ?_
  refine lv_iconst (v := 0) hx hb dL_gear_2 (by decide) ?_
  refine lv_aload_n hx hb dL_gear_3 rfl (lv_at hl 0 rfl) ?_
  refine lv_iload_n hx hb dL_gear_4 rfl (lv_at hl 1 rfl) ?_
  refine lv_iload_n hx hb dL_gear_5 rfl (lv_at hl 2 rfl) ?_
  refine lv_iload_n hx hb dL_gear_6 rfl (lv_at hl 3 rfl) ?_
  refine lv_iload hx hb dL_gear_7 (lv_at hl 4 rfl) ?_
  have sp := cu_sp.pre (w := (cu_cw C a (nI N) mn K P)) (w' := (cu_cw C a (nI N) mn (va_up K v1.toNatClampNeg (upd (upd (upd (K v1.toNatClampNeg) 9 v2) 10 v3) 11 v4)) P)) (Y := cu_ou C out f) cu_cw_fst
  refine cu_callXI (vx_runV (As := [.int v1, .int v2, .int v3, .int v4]) (rest := [.int 0, .ref out]) ⟨hx, hb, hml, hown, hts⟩ ((m_X1_gear l hlf D C a N hN mn K P v1 v2 v3 v4) H0.size) (cwV 4 hts gL_gear_X1_gear rfl rfl rfl (by decide +kernel) ⟨Nat.le_of_ble_eq_true rfl, Nat.le_of_ble_eq_true rfl⟩) (cu_preXV (ci := 1) sp hG hP hD hT hS hA rfl rfl) rfl rfl hl.1 rfl (lv_room (Nat.le_of_ble_eq_true rfl)) dL_gear_9 ⟨Nat.le_of_ble_eq_true rfl, Nat.le_of_ble_eq_true rfl⟩) sp hP hD hS hA (fun E ce q9 H locs hoE hP hD hS hce hcv hcl => ?_) (fun H locs hoN hP hD hS => ?_)
  · have hE : E = x_IOB ∨ E = x_IAE := (k_or_x hoE).elim (fun h => Or.inl (k_ox_C h)) (fun h => Or.inr (k_ox_G h))
    rcases hE with rfl | rfl
    · refine vx_catch hown [] ⟨0, 14, 17, 21⟩ [⟨0, 14, 21, 13⟩] htab (fun z hz => absurd hz List.not_mem_nil) rfl (by decide) (hts (.classLink RL 21 x_IOB) (by decide +kernel)) (va_Nw.use rfl (hG.2.2.2.1 (x_IOB, x_IOB) (by decide +kernel))) hce hcv hcl ?_
      refine W.eq (g2 := F0 m 17 ls [.ref q9]) rfl ?_
      refine lv_astore (lv' := [(6, .ref q9), (0, .ref (a 0)), (1, .int v1), (2, .int v2), (3, .int v3), (4, .int v4), (5, .ref out)]) hx hb dL_gear_17 hl (by decide) rfl (fun ls hl => ?_)
      refine lv_iconst (v := 1) hx hb dL_gear_19 (by decide) ?_
      exact fin _ _ _ _ _ rfl (by rw [hoE]; decide) (by rw [hoE]; exact hP) hS dL_gear_20
    · refine vx_catch hown [⟨0, 14, 17, 21⟩] ⟨0, 14, 21, 13⟩ [] htab (fun z hz => by rw [List.mem_singleton.mp hz]; exact Or.inr ⟨by decide, x_IOB, hts (.classLink RL 21 x_IOB) (by decide +kernel), hG.2.2.2.2.1 (x_IAE, x_IOB) (by decide +kernel)⟩) rfl (by decide) (hts (.classLink RL 13 x_IAE) (by decide +kernel)) (va_Nw.use rfl (hG.2.2.2.1 (x_IAE, x_IAE) (by decide +kernel))) hce hcv hcl ?_
      refine W.eq (g2 := F0 m 21 ls [.ref q9]) rfl ?_
      refine lv_astore (lv' := [(6, .ref q9), (0, .ref (a 0)), (1, .int v1), (2, .int v2), (3, .int v3), (4, .int v4), (5, .ref out)]) hx hb dL_gear_21 hl (by decide) rfl (fun ls hl => ?_)
      refine lv_iconst (v := 2) hx hb dL_gear_23 (by decide) ?_
      exact fin _ _ _ _ _ rfl (by rw [hoE]; decide) (by rw [hoE]; exact hP) hS dL_gear_24
  · refine lv_i2l (v := ((k_adv (upd (upd (upd (K v1.toNatClampNeg) 9 v2) 10 v3) 11 v4))).toInt64) hx hb dL_gear_12 rfl ?_
    refine va_last hx hb hK hP hD hS ((cu_cw C a (nI N) mn (va_up K v1.toNatClampNeg (upd (upd (upd (K v1.toNatClampNeg) 9 v2) 10 v3) 11 v4)) P)).length 2 cu_last rfl (vp_in_nI (n := 0) (by decide) (by decide)) dL_gear_13 (fun H locs hP hD hS => ?_)
    rw [cu_set_last] at hP hD
    refine lv_goto (tgt := 25) hx hb dL_gear_14 (by decide) ?_
    refine lv_iconst (v := 0) hx hb dL_gear_25 (by decide) ?_
    exact fin _ _ _ _ _ rfl (by rw [hoN]; rfl) (by rw [hoN]; exact hP) hS dL_gear_26

set_option maxHeartbeats 4000000 in
set_option maxRecDepth 100000 in
theorem m_L_set (l : Launch) (hlf : l.stackTraces = false) (D : va_G) (C : Nat → ClassId) (a : Nat → Nat) (N : Nat) (hN : N ≤ 10) (mn : Int32) (K P : Nat → Nat → Int32) (v1 : Int32) (v2 : Int32) (out : Nat) (f : Nat → Int64) : cu_H l D C yL_set wsL_set { frames := 8, cells := 2, slots := 12, locals := 126 } [.ref (a 0), .int v1, .int v2, .ref out] ((cu_cw C a (nI N) mn K P) ++ cu_ou C out f) (k_sel ((k_oC N v1).or (k_oT v2)) ((cu_cw C a (nI N) mn (va_up K v1.toNatClampNeg (upd (upd (K v1.toNatClampNeg) 0 v2) 1 0)) P) ++ cu_ou C out (vp_updL f 0 ((k_off (K v1.toNatClampNeg) mn)).toInt64)) ((cu_cw C a (nI N) mn K P) ++ cu_ou C out f)) (k_hc x_IOB ((k_oC N v1).or (k_oT v2))) 2 12 := by
  refine cu_openH (cc := cL_set) (maxL := 5) (by decide) rfl rfl (Nat.le_of_ble_eq_true rfl) ?_
  intro p e s m args below meth c A Z H0 ls e0 hx hb hml hts hown htab hG hP hD hS hA hl hT fin
  have hK := hG.1
  have hl : lv_has ls 5 [(0, .ref (a 0)), (1, .int v1), (2, .int v2), (3, .ref out)] := hl
  refine lv_aload_n hx hb dL_set_0 rfl (lv_at hl 3 rfl) ?_
  refine lv_iconst (v := 0) hx hb dL_set_1 (by decide) ?_
  refine lv_aload_n hx hb dL_set_2 rfl (lv_at hl 0 rfl) ?_
  refine lv_iload_n hx hb dL_set_3 rfl (lv_at hl 1 rfl) ?_
  refine lv_iload_n hx hb dL_set_4 rfl (lv_at hl 2 rfl) ?_
  have sp := cu_sp.pre (w := (cu_cw C a (nI N) mn K P)) (w' := (cu_cw C a (nI N) mn (va_up K v1.toNatClampNeg (upd (upd (K v1.toNatClampNeg) 0 v2) 1 0)) P)) (Y := cu_ou C out f) cu_cw_fst
  refine cu_callXI (vx_runV (As := [.int v1, .int v2]) (rest := [.int 0, .ref out]) ⟨hx, hb, hml, hown, hts⟩ ((m_X1_set l hlf D C a N hN mn K P v1 v2) H0.size) (cwV 2 hts gL_set_X1_set rfl rfl rfl (by decide +kernel) ⟨Nat.le_of_ble_eq_true rfl, Nat.le_of_ble_eq_true rfl⟩) (cu_preXV (ci := 1) sp hG hP hD hT hS hA rfl rfl) rfl rfl hl.1 rfl (lv_room (Nat.le_of_ble_eq_true rfl)) dL_set_5 ⟨Nat.le_of_ble_eq_true rfl, Nat.le_of_ble_eq_true rfl⟩) sp hP hD hS hA (fun E ce q9 H locs hoE hP hD hS hce hcv hcl => ?_) (fun H locs hoN hP hD hS => ?_)
  · have hE : E = x_IOB ∨ E = x_IAE := (k_or_x hoE).elim (fun h => Or.inl (k_ox_C h)) (fun h => Or.inr (k_ox_T h))
    rcases hE with rfl | rfl
    · refine vx_catch hown [] ⟨0, 10, 13, 21⟩ [⟨0, 10, 17, 13⟩] htab (fun z hz => absurd hz List.not_mem_nil) rfl (by decide) (hts (.classLink RL 21 x_IOB) (by decide +kernel)) (va_Nw.use rfl (hG.2.2.2.1 (x_IOB, x_IOB) (by decide +kernel))) hce hcv hcl ?_
      refine W.eq (g2 := F0 m 13 ls [.ref q9]) rfl ?_
      refine lv_astore (lv' := [(4, .ref q9), (0, .ref (a 0)), (1, .int v1), (2, .int v2), (3, .ref out)]) hx hb dL_set_13 hl (by decide) rfl (fun ls hl => ?_)
      refine lv_iconst (v := 1) hx hb dL_set_15 (by decide) ?_
      exact fin _ _ _ _ _ rfl (by rw [hoE]; decide) (by rw [hoE]; exact hP) hS dL_set_16
    · refine vx_catch hown [⟨0, 10, 13, 21⟩] ⟨0, 10, 17, 13⟩ [] htab (fun z hz => by rw [List.mem_singleton.mp hz]; exact Or.inr ⟨by decide, x_IOB, hts (.classLink RL 21 x_IOB) (by decide +kernel), hG.2.2.2.2.1 (x_IAE, x_IOB) (by decide +kernel)⟩) rfl (by decide) (hts (.classLink RL 13 x_IAE) (by decide +kernel)) (va_Nw.use rfl (hG.2.2.2.1 (x_IAE, x_IAE) (by decide +kernel))) hce hcv hcl ?_
      refine W.eq (g2 := F0 m 17 ls [.ref q9]) rfl ?_
      refine lv_astore (lv' := [(4, .ref q9), (0, .ref (a 0)), (1, .int v1), (2, .int v2), (3, .ref out)]) hx hb dL_set_17 hl (by decide) rfl (fun ls hl => ?_)
      refine lv_iconst (v := 2) hx hb dL_set_19 (by decide) ?_
      exact fin _ _ _ _ _ rfl (by rw [hoE]; decide) (by rw [hoE]; exact hP) hS dL_set_20
  · refine lv_i2l (v := ((k_off (K v1.toNatClampNeg) mn)).toInt64) hx hb dL_set_8 rfl ?_
    refine va_last hx hb hK hP hD hS ((cu_cw C a (nI N) mn (va_up K v1.toNatClampNeg (upd (upd (K v1.toNatClampNeg) 0 v2) 1 0)) P)).length 2 cu_last rfl (vp_in_nI (n := 0) (by decide) (by decide)) dL_set_9 (fun H locs hP hD hS => ?_)
    rw [cu_set_last] at hP hD
    refine lv_goto (tgt := 21) hx hb dL_set_10 (by decide) ?_
    refine lv_iconst (v := 0) hx hb dL_set_21 (by decide) ?_
    exact fin _ _ _ _ _ rfl (by rw [hoN]; rfl) (by rw [hoN]; exact hP) hS dL_set_22

set_option maxHeartbeats 4000000 in
set_option maxRecDepth 100000 in
theorem m_L_wind (l : Launch) (hlf : l.stackTraces = false) (D : va_G) (C : Nat → ClassId) (a : Nat → Nat) (N : Nat) (hN : N ≤ 10) (mn : Int32) (K P : Nat → Nat → Int32) (v1 : Int32) (out : Nat) (f : Nat → Int64) : cu_H l D C yL_wind wsL_wind { frames := 8, cells := 1, slots := 6, locals := 124 } [.ref (a 0), .int v1, .ref out] ((cu_cw C a (nI N) mn K P) ++ cu_ou C out f) (k_sel (k_oC N v1) ((cu_cw C a (nI N) mn (va_up K v1.toNatClampNeg (upd (upd (K v1.toNatClampNeg) 2 600) 5 1)) P) ++ cu_ou C out (vp_updL f 0 ((600 - K v1.toNatClampNeg 2)).toInt64)) ((cu_cw C a (nI N) mn K P) ++ cu_ou C out f)) (k_hc x_IOB (k_oC N v1)) 1 6 := by
  refine cu_openH (cc := cL_wind) (maxL := 4) (by decide) rfl rfl (Nat.le_of_ble_eq_true rfl) ?_
  intro p e s m args below meth c A Z H0 ls e0 hx hb hml hts hown htab hG hP hD hS hA hl hT fin
  have hK := hG.1
  have hl : lv_has ls 4 [(0, .ref (a 0)), (1, .int v1), (2, .ref out)] := hl
  refine lv_aload_n hx hb dL_wind_0 rfl (lv_at hl 2 rfl) ?_
  refine lv_iconst (v := 0) hx hb dL_wind_1 (by decide) ?_
  refine lv_aload_n hx hb dL_wind_2 rfl (lv_at hl 0 rfl) ?_
  refine lv_iload_n hx hb dL_wind_3 rfl (lv_at hl 1 rfl) ?_
  have sp := cu_sp.pre (w := (cu_cw C a (nI N) mn K P)) (w' := (cu_cw C a (nI N) mn (va_up K v1.toNatClampNeg (upd (upd (K v1.toNatClampNeg) 2 600) 5 1)) P)) (Y := cu_ou C out f) cu_cw_fst
  refine cu_callXI (vx_runV (As := [.int v1]) (rest := [.int 0, .ref out]) ⟨hx, hb, hml, hown, hts⟩ ((m_X1_wind l hlf D C a N hN mn K P v1) H0.size) (cwV 1 hts gL_wind_X1_wind rfl rfl rfl (by decide +kernel) ⟨Nat.le_of_ble_eq_true rfl, Nat.le_of_ble_eq_true rfl⟩) (cu_preXV (ci := 1) sp hG hP hD hT hS hA rfl rfl) rfl rfl hl.1 rfl (lv_room (Nat.le_of_ble_eq_true rfl)) dL_wind_4 ⟨Nat.le_of_ble_eq_true rfl, Nat.le_of_ble_eq_true rfl⟩) sp hP hD hS hA (fun E ce q9 H locs hoE hP hD hS hce hcv hcl => ?_) (fun H locs hoN hP hD hS => ?_)
  · have hE : E = x_IOB := k_ox_C hoE
    subst hE
    refine vx_catch hown [] ⟨0, 9, 12, 21⟩ [] htab (fun z hz => absurd hz List.not_mem_nil) rfl (by decide) (hts (.classLink RL 21 x_IOB) (by decide +kernel)) (va_Nw.use rfl (hG.2.2.2.1 (x_IOB, x_IOB) (by decide +kernel))) hce hcv hcl ?_
    refine W.eq (g2 := F0 m 12 ls [.ref q9]) rfl ?_
    refine lv_astore_n (lv' := [(3, .ref q9), (0, .ref (a 0)), (1, .int v1), (2, .ref out)]) hx hb dL_wind_12 rfl hl (by decide) rfl (fun ls hl => ?_)
    refine lv_iconst (v := 1) hx hb dL_wind_13 (by decide) ?_
    exact fin _ _ _ _ _ rfl (by rw [hoE]; decide) (by rw [hoE]; exact hP) hS dL_wind_14
  · refine lv_i2l (v := ((600 - K v1.toNatClampNeg 2)).toInt64) hx hb dL_wind_7 rfl ?_
    refine va_last hx hb hK hP hD hS ((cu_cw C a (nI N) mn (va_up K v1.toNatClampNeg (upd (upd (K v1.toNatClampNeg) 2 600) 5 1)) P)).length 2 cu_last rfl (vp_in_nI (n := 0) (by decide) (by decide)) dL_wind_8 (fun H locs hP hD hS => ?_)
    rw [cu_set_last] at hP hD
    refine lv_goto (tgt := 15) hx hb dL_wind_9 (by decide) ?_
    refine lv_iconst (v := 0) hx hb dL_wind_15 (by decide) ?_
    exact fin _ _ _ _ _ rfl (by rw [hoN]; rfl) (by rw [hoN]; exact hP) hS dL_wind_16

set_option maxHeartbeats 4000000 in
set_option maxRecDepth 100000 in
theorem m_L_mend (l : Launch) (hlf : l.stackTraces = false) (D : va_G) (C : Nat → ClassId) (a : Nat → Nat) (N : Nat) (hN : N ≤ 10) (mn : Int32) (K P : Nat → Nat → Int32) (v1 : Int32) (v2 : Int32) (out : Nat) (f : Nat → Int64) : cu_H l D C yL_mend wsL_mend { frames := 8, cells := 2, slots := 12, locals := 125 } [.ref (a 0), .int v1, .int v2, .ref out] ((cu_cw C a (nI N) mn K P) ++ cu_ou C out f) (k_sel ((k_oC N v1).or (k_oE v2)) ((cu_cw C a (nI N) mn (va_up K v1.toNatClampNeg (k_mendK (K v1.toNatClampNeg) v2)) P) ++ cu_ou C out (vp_updL f 0 ((k_mendV (K v1.toNatClampNeg) v2)).toInt64)) ((cu_cw C a (nI N) mn K P) ++ cu_ou C out f)) (k_hc x_IOB ((k_oC N v1).or (k_oE v2))) 2 12 := by
  refine cu_openH (cc := cL_mend) (maxL := 5) (by decide) rfl rfl (Nat.le_of_ble_eq_true rfl) ?_
  intro p e s m args below meth c A Z H0 ls e0 hx hb hml hts hown htab hG hP hD hS hA hl hT fin
  have hK := hG.1
  have hl : lv_has ls 5 [(0, .ref (a 0)), (1, .int v1), (2, .int v2), (3, .ref out)] := hl
  refine lv_aload_n hx hb dL_mend_0 rfl (lv_at hl 3 rfl) ?_
  refine lv_iconst (v := 0) hx hb dL_mend_1 (by decide) ?_
  refine lv_aload_n hx hb dL_mend_2 rfl (lv_at hl 0 rfl) ?_
  refine lv_iload_n hx hb dL_mend_3 rfl (lv_at hl 1 rfl) ?_
  refine lv_iload_n hx hb dL_mend_4 rfl (lv_at hl 2 rfl) ?_
  have sp := cu_sp.pre (w := (cu_cw C a (nI N) mn K P)) (w' := (cu_cw C a (nI N) mn (va_up K v1.toNatClampNeg (k_mendK (K v1.toNatClampNeg) v2)) P)) (Y := cu_ou C out f) cu_cw_fst
  refine cu_callXI (vx_runV (As := [.int v1, .int v2]) (rest := [.int 0, .ref out]) ⟨hx, hb, hml, hown, hts⟩ ((m_X1_mend l hlf D C a N hN mn K P v1 v2) H0.size) (cwV 2 hts gL_mend_X1_mend rfl rfl rfl (by decide +kernel) ⟨Nat.le_of_ble_eq_true rfl, Nat.le_of_ble_eq_true rfl⟩) (cu_preXV (ci := 1) sp hG hP hD hT hS hA rfl rfl) rfl rfl hl.1 rfl (lv_room (Nat.le_of_ble_eq_true rfl)) dL_mend_5 ⟨Nat.le_of_ble_eq_true rfl, Nat.le_of_ble_eq_true rfl⟩) sp hP hD hS hA (fun E ce q9 H locs hoE hP hD hS hce hcv hcl => ?_) (fun H locs hoN hP hD hS => ?_)
  · have hE : E = x_IOB ∨ E = x_IAE := (k_or_x hoE).elim (fun h => Or.inl (k_ox_C h)) (fun h => Or.inr (k_ox_E h))
    rcases hE with rfl | rfl
    · refine vx_catch hown [] ⟨0, 10, 13, 21⟩ [⟨0, 10, 17, 13⟩] htab (fun z hz => absurd hz List.not_mem_nil) rfl (by decide) (hts (.classLink RL 21 x_IOB) (by decide +kernel)) (va_Nw.use rfl (hG.2.2.2.1 (x_IOB, x_IOB) (by decide +kernel))) hce hcv hcl ?_
      refine W.eq (g2 := F0 m 13 ls [.ref q9]) rfl ?_
      refine lv_astore (lv' := [(4, .ref q9), (0, .ref (a 0)), (1, .int v1), (2, .int v2), (3, .ref out)]) hx hb dL_mend_13 hl (by decide) rfl (fun ls hl => ?_)
      refine lv_iconst (v := 1) hx hb dL_mend_15 (by decide) ?_
      exact fin _ _ _ _ _ rfl (by rw [hoE]; decide) (by rw [hoE]; exact hP) hS dL_mend_16
    · refine vx_catch hown [⟨0, 10, 13, 21⟩] ⟨0, 10, 17, 13⟩ [] htab (fun z hz => by rw [List.mem_singleton.mp hz]; exact Or.inr ⟨by decide, x_IOB, hts (.classLink RL 21 x_IOB) (by decide +kernel), hG.2.2.2.2.1 (x_IAE, x_IOB) (by decide +kernel)⟩) rfl (by decide) (hts (.classLink RL 13 x_IAE) (by decide +kernel)) (va_Nw.use rfl (hG.2.2.2.1 (x_IAE, x_IAE) (by decide +kernel))) hce hcv hcl ?_
      refine W.eq (g2 := F0 m 17 ls [.ref q9]) rfl ?_
      refine lv_astore (lv' := [(4, .ref q9), (0, .ref (a 0)), (1, .int v1), (2, .int v2), (3, .ref out)]) hx hb dL_mend_17 hl (by decide) rfl (fun ls hl => ?_)
      refine lv_iconst (v := 2) hx hb dL_mend_19 (by decide) ?_
      exact fin _ _ _ _ _ rfl (by rw [hoE]; decide) (by rw [hoE]; exact hP) hS dL_mend_20
  · refine lv_i2l (v := ((k_mendV (K v1.toNatClampNeg) v2)).toInt64) hx hb dL_mend_8 rfl ?_
    refine va_last hx hb hK hP hD hS ((cu_cw C a (nI N) mn (va_up K v1.toNatClampNeg (k_mendK (K v1.toNatClampNeg) v2)) P)).length 2 cu_last rfl (vp_in_nI (n := 0) (by decide) (by decide)) dL_mend_9 (fun H locs hP hD hS => ?_)
    rw [cu_set_last] at hP hD
    refine lv_goto (tgt := 21) hx hb dL_mend_10 (by decide) ?_
    refine lv_iconst (v := 0) hx hb dL_mend_21 (by decide) ?_
    exact fin _ _ _ _ _ rfl (by rw [hoN]; rfl) (by rw [hoN]; exact hP) hS dL_mend_22

set_option maxHeartbeats 4000000 in
set_option maxRecDepth 100000 in
theorem m_L_shut (l : Launch) (hlf : l.stackTraces = false) (D : va_G) (C : Nat → ClassId) (a : Nat → Nat) (N : Nat) (hN : N ≤ 10) (mn : Int32) (K P : Nat → Nat → Int32) (v1 : Int32) (v2 : Int32) (v3 : Int32) (out : Nat) (f : Nat → Int64) : cu_H l D C yL_shut wsL_shut { frames := 8, cells := 3, slots := 18, locals := 126 } [.ref (a 0), .int v1, .int v2, .int v3, .ref out] ((cu_cw C a (nI N) mn K P) ++ cu_ou C out f) (k_sel ((k_oC N v1).or (k_oS v2 v3)) ((cu_cw C a (nI N) mn (va_up K v1.toNatClampNeg (upd (upd (K v1.toNatClampNeg) 12 v2) 13 v3)) P) ++ cu_ou C out (vp_updL f 0 ((K v1.toNatClampNeg 12)).toInt64)) ((cu_cw C a (nI N) mn K P) ++ cu_ou C out f)) (k_hc x_IOB ((k_oC N v1).or (k_oS v2 v3))) 3 18 := by
  refine cu_openH (cc := cL_shut) (maxL := 6) (by decide) rfl rfl (Nat.le_of_ble_eq_true rfl) ?_
  intro p e s m args below meth c A Z H0 ls e0 hx hb hml hts hown htab hG hP hD hS hA hl hT fin
  have hK := hG.1
  have hl : lv_has ls 6 [(0, .ref (a 0)), (1, .int v1), (2, .int v2), (3, .int v3), (4, .ref out)] := hl
  refine lv_aload hx hb dL_shut_0 (lv_at hl 4 rfl) ?_
  refine lv_iconst (v := 0) hx hb dL_shut_2 (by decide) ?_
  refine lv_aload_n hx hb dL_shut_3 rfl (lv_at hl 0 rfl) ?_
  refine lv_iload_n hx hb dL_shut_4 rfl (lv_at hl 1 rfl) ?_
  refine lv_iload_n hx hb dL_shut_5 rfl (lv_at hl 2 rfl) ?_
  refine lv_iload_n hx hb dL_shut_6 rfl (lv_at hl 3 rfl) ?_
  have sp := cu_sp.pre (w := (cu_cw C a (nI N) mn K P)) (w' := (cu_cw C a (nI N) mn (va_up K v1.toNatClampNeg (upd (upd (K v1.toNatClampNeg) 12 v2) 13 v3)) P)) (Y := cu_ou C out f) cu_cw_fst
  refine cu_callXI (vx_runV (As := [.int v1, .int v2, .int v3]) (rest := [.int 0, .ref out]) ⟨hx, hb, hml, hown, hts⟩ ((m_X1_shut l hlf D C a N hN mn K P v1 v2 v3) H0.size) (cwV 3 hts gL_shut_X1_shut rfl rfl rfl (by decide +kernel) ⟨Nat.le_of_ble_eq_true rfl, Nat.le_of_ble_eq_true rfl⟩) (cu_preXV (ci := 1) sp hG hP hD hT hS hA rfl rfl) rfl rfl hl.1 rfl (lv_room (Nat.le_of_ble_eq_true rfl)) dL_shut_7 ⟨Nat.le_of_ble_eq_true rfl, Nat.le_of_ble_eq_true rfl⟩) sp hP hD hS hA (fun E ce q9 H locs hoE hP hD hS hce hcv hcl => ?_) (fun H locs hoN hP hD hS => ?_)
  · have hE : E = x_IOB ∨ E = x_IAE := (k_or_x hoE).elim (fun h => Or.inl (k_ox_C h)) (fun h => Or.inr (k_ox_S h))
    rcases hE with rfl | rfl
    · refine vx_catch hown [] ⟨0, 12, 15, 21⟩ [⟨0, 12, 19, 13⟩] htab (fun z hz => absurd hz List.not_mem_nil) rfl (by decide) (hts (.classLink RL 21 x_IOB) (by decide +kernel)) (va_Nw.use rfl (hG.2.2.2.1 (x_IOB, x_IOB) (by decide +kernel))) hce hcv hcl ?_
      refine W.eq (g2 := F0 m 15 ls [.ref q9]) rfl ?_
      refine lv_astore (lv' := [(5, .ref q9), (0, .ref (a 0)), (1, .int v1), (2, .int v2), (3, .int v3), (4, .ref out)]) hx hb dL_shut_15 hl (by decide) rfl (fun ls hl => ?_)
      refine lv_iconst (v := 1) hx hb dL_shut_17 (by decide) ?_
      exact fin _ _ _ _ _ rfl (by rw [hoE]; decide) (by rw [hoE]; exact hP) hS dL_shut_18
    · refine vx_catch hown [⟨0, 12, 15, 21⟩] ⟨0, 12, 19, 13⟩ [] htab (fun z hz => by rw [List.mem_singleton.mp hz]; exact Or.inr ⟨by decide, x_IOB, hts (.classLink RL 21 x_IOB) (by decide +kernel), hG.2.2.2.2.1 (x_IAE, x_IOB) (by decide +kernel)⟩) rfl (by decide) (hts (.classLink RL 13 x_IAE) (by decide +kernel)) (va_Nw.use rfl (hG.2.2.2.1 (x_IAE, x_IAE) (by decide +kernel))) hce hcv hcl ?_
      refine W.eq (g2 := F0 m 19 ls [.ref q9]) rfl ?_
      refine lv_astore (lv' := [(5, .ref q9), (0, .ref (a 0)), (1, .int v1), (2, .int v2), (3, .int v3), (4, .ref out)]) hx hb dL_shut_19 hl (by decide) rfl (fun ls hl => ?_)
      refine lv_iconst (v := 2) hx hb dL_shut_21 (by decide) ?_
      exact fin _ _ _ _ _ rfl (by rw [hoE]; decide) (by rw [hoE]; exact hP) hS dL_shut_22
  · refine lv_i2l (v := ((K v1.toNatClampNeg 12)).toInt64) hx hb dL_shut_10 rfl ?_
    refine va_last hx hb hK hP hD hS ((cu_cw C a (nI N) mn (va_up K v1.toNatClampNeg (upd (upd (K v1.toNatClampNeg) 12 v2) 13 v3)) P)).length 2 cu_last rfl (vp_in_nI (n := 0) (by decide) (by decide)) dL_shut_11 (fun H locs hP hD hS => ?_)
    rw [cu_set_last] at hP hD
    refine lv_goto (tgt := 23) hx hb dL_shut_12 (by decide) ?_
    refine lv_iconst (v := 0) hx hb dL_shut_23 (by decide) ?_
    exact fin _ _ _ _ _ rfl (by rw [hoN]; rfl) (by rw [hoN]; exact hP) hS dL_shut_24

set_option maxHeartbeats 4000000 in
set_option maxRecDepth 100000 in
theorem m_L_clock (l : Launch) (hlf : l.stackTraces = false) (D : va_G) (C : Nat → ClassId) (a : Nat → Nat) (N : Nat) (hN : N ≤ 10) (mn : Int32) (K P : Nat → Nat → Int32) (v1 : Int32) (v2 : Int32) (out : Nat) (f : Nat → Int64) : cu_H l D C yL_clock wsL_clock { frames := 8, cells := 2, slots := 12, locals := 125 } [.ref (a 0), .int v1, .int v2, .ref out] ((cu_cw C a (nI N) mn K P) ++ cu_ou C out f) (k_sel ((k_oC N v1).or (k_oR v2)) ((cu_cw C a (nI N) mn K P) ++ cu_ou C out (vp_updL f 0 ((k_read (K v1.toNatClampNeg) v2)).toInt64)) ((cu_cw C a (nI N) mn K P) ++ cu_ou C out f)) (k_hc x_IOB ((k_oC N v1).or (k_oR v2))) 2 12 := by
  refine cu_openH (cc := cL_clock) (maxL := 5) (by decide) rfl rfl (Nat.le_of_ble_eq_true rfl) ?_
  intro p e s m args below meth c A Z H0 ls e0 hx hb hml hts hown htab hG hP hD hS hA hl hT fin
  have hK := hG.1
  have hl : lv_has ls 5 [(0, .ref (a 0)), (1, .int v1), (2, .int v2), (3, .ref out)] := hl
  refine lv_aload_n hx hb dL_clock_0 rfl (lv_at hl 3 rfl) ?_
  refine lv_iconst (v := 0) hx hb dL_clock_1 (by decide) ?_
  refine lv_aload_n hx hb dL_clock_2 rfl (lv_at hl 0 rfl) ?_
  refine lv_iload_n hx hb dL_clock_3 rfl (lv_at hl 1 rfl) ?_
  refine lv_iload_n hx hb dL_clock_4 rfl (lv_at hl 2 rfl) ?_
  have sp := cu_sp.pre (w := (cu_cw C a (nI N) mn K P)) (w' := (cu_cw C a (nI N) mn K P)) (Y := cu_ou C out f) rfl
  refine cu_callXI (vx_runV (As := [.int v1, .int v2]) (rest := [.int 0, .ref out]) ⟨hx, hb, hml, hown, hts⟩ ((m_X1_clock l hlf D C a N hN mn K P v1 v2) H0.size) (cwV 2 hts gL_clock_X1_clock rfl rfl rfl (by decide +kernel) ⟨Nat.le_of_ble_eq_true rfl, Nat.le_of_ble_eq_true rfl⟩) (cu_preXV (ci := 1) sp hG hP hD hT hS hA rfl rfl) rfl rfl hl.1 rfl (lv_room (Nat.le_of_ble_eq_true rfl)) dL_clock_5 ⟨Nat.le_of_ble_eq_true rfl, Nat.le_of_ble_eq_true rfl⟩) sp hP hD hS hA (fun E ce q9 H locs hoE hP hD hS hce hcv hcl => ?_) (fun H locs hoN hP hD hS => ?_)
  · have hE : E = x_IOB := (k_or_x hoE).elim k_ox_C k_ox_R
    subst hE
    refine vx_catch hown [] ⟨0, 10, 13, 21⟩ [] htab (fun z hz => absurd hz List.not_mem_nil) rfl (by decide) (hts (.classLink RL 21 x_IOB) (by decide +kernel)) (va_Nw.use rfl (hG.2.2.2.1 (x_IOB, x_IOB) (by decide +kernel))) hce hcv hcl ?_
    refine W.eq (g2 := F0 m 13 ls [.ref q9]) rfl ?_
    refine lv_astore (lv' := [(4, .ref q9), (0, .ref (a 0)), (1, .int v1), (2, .int v2), (3, .ref out)]) hx hb dL_clock_13 hl (by decide) rfl (fun ls hl => ?_)
    refine lv_iconst (v := 1) hx hb dL_clock_15 (by decide) ?_
    exact fin _ _ _ _ _ rfl (by rw [hoE]; decide) (by rw [hoE]; exact hP) hS dL_clock_16
  · refine lv_i2l (v := ((k_read (K v1.toNatClampNeg) v2)).toInt64) hx hb dL_clock_8 rfl ?_
    refine va_last hx hb hK hP hD hS ((cu_cw C a (nI N) mn K P)).length 2 cu_last rfl (vp_in_nI (n := 0) (by decide) (by decide)) dL_clock_9 (fun H locs hP hD hS => ?_)
    rw [cu_set_last] at hP hD
    refine lv_goto (tgt := 17) hx hb dL_clock_10 (by decide) ?_
    refine lv_iconst (v := 0) hx hb dL_clock_17 (by decide) ?_
    exact fin _ _ _ _ _ rfl (by rw [hoN]; rfl) (by rw [hoN]; exact hP) hS dL_clock_18

set_option maxHeartbeats 4000000 in
set_option maxRecDepth 100000 in
theorem m_L_off (l : Launch) (hlf : l.stackTraces = false) (D : va_G) (C : Nat → ClassId) (a : Nat → Nat) (N : Nat) (hN : N ≤ 10) (mn : Int32) (K P : Nat → Nat → Int32) (v1 : Int32) (out : Nat) (f : Nat → Int64) : cu_H l D C yL_off wsL_off { frames := 8, cells := 1, slots := 6, locals := 124 } [.ref (a 0), .int v1, .ref out] ((cu_cw C a (nI N) mn K P) ++ cu_ou C out f) (k_sel (k_oC N v1) ((cu_cw C a (nI N) mn K P) ++ cu_ou C out (vp_updL f 0 ((k_off (K v1.toNatClampNeg) mn)).toInt64)) ((cu_cw C a (nI N) mn K P) ++ cu_ou C out f)) (k_hc x_IOB (k_oC N v1)) 1 6 := by
  refine cu_openH (cc := cL_off) (maxL := 4) (by decide) rfl rfl (Nat.le_of_ble_eq_true rfl) ?_
  intro p e s m args below meth c A Z H0 ls e0 hx hb hml hts hown htab hG hP hD hS hA hl hT fin
  have hK := hG.1
  have hl : lv_has ls 4 [(0, .ref (a 0)), (1, .int v1), (2, .ref out)] := hl
  refine lv_aload_n hx hb dL_off_0 rfl (lv_at hl 2 rfl) ?_
  refine lv_iconst (v := 0) hx hb dL_off_1 (by decide) ?_
  refine lv_aload_n hx hb dL_off_2 rfl (lv_at hl 0 rfl) ?_
  refine lv_iload_n hx hb dL_off_3 rfl (lv_at hl 1 rfl) ?_
  have sp := cu_sp.pre (w := (cu_cw C a (nI N) mn K P)) (w' := (cu_cw C a (nI N) mn K P)) (Y := cu_ou C out f) rfl
  refine cu_callXI (vx_runV (As := [.int v1]) (rest := [.int 0, .ref out]) ⟨hx, hb, hml, hown, hts⟩ ((m_X1_off l hlf D C a N hN mn K P v1) H0.size) (cwV 1 hts gL_off_X1_off rfl rfl rfl (by decide +kernel) ⟨Nat.le_of_ble_eq_true rfl, Nat.le_of_ble_eq_true rfl⟩) (cu_preXV (ci := 1) sp hG hP hD hT hS hA rfl rfl) rfl rfl hl.1 rfl (lv_room (Nat.le_of_ble_eq_true rfl)) dL_off_4 ⟨Nat.le_of_ble_eq_true rfl, Nat.le_of_ble_eq_true rfl⟩) sp hP hD hS hA (fun E ce q9 H locs hoE hP hD hS hce hcv hcl => ?_) (fun H locs hoN hP hD hS => ?_)
  · have hE : E = x_IOB := k_ox_C hoE
    subst hE
    refine vx_catch hown [] ⟨0, 9, 12, 21⟩ [] htab (fun z hz => absurd hz List.not_mem_nil) rfl (by decide) (hts (.classLink RL 21 x_IOB) (by decide +kernel)) (va_Nw.use rfl (hG.2.2.2.1 (x_IOB, x_IOB) (by decide +kernel))) hce hcv hcl ?_
    refine W.eq (g2 := F0 m 12 ls [.ref q9]) rfl ?_
    refine lv_astore_n (lv' := [(3, .ref q9), (0, .ref (a 0)), (1, .int v1), (2, .ref out)]) hx hb dL_off_12 rfl hl (by decide) rfl (fun ls hl => ?_)
    refine lv_iconst (v := 1) hx hb dL_off_13 (by decide) ?_
    exact fin _ _ _ _ _ rfl (by rw [hoE]; decide) (by rw [hoE]; exact hP) hS dL_off_14
  · refine lv_i2l (v := ((k_off (K v1.toNatClampNeg) mn)).toInt64) hx hb dL_off_7 rfl ?_
    refine va_last hx hb hK hP hD hS ((cu_cw C a (nI N) mn K P)).length 2 cu_last rfl (vp_in_nI (n := 0) (by decide) (by decide)) dL_off_8 (fun H locs hP hD hS => ?_)
    rw [cu_set_last] at hP hD
    refine lv_goto (tgt := 15) hx hb dL_off_9 (by decide) ?_
    refine lv_iconst (v := 0) hx hb dL_off_15 (by decide) ?_
    exact fin _ _ _ _ _ rfl (by rw [hoN]; rfl) (by rw [hoN]; exact hP) hS dL_off_16

set_option maxHeartbeats 4000000 in
set_option maxRecDepth 100000 in
theorem m_L_count (l : Launch) (hlf : l.stackTraces = false) (D : va_G) (C : Nat → ClassId) (a : Nat → Nat) (N : Nat) (hN : N ≤ 10) (mn : Int32) (K P : Nat → Nat → Int32) (v1 : Int32) (out : Nat) (f : Nat → Int64) : cu_H l D C yL_count wsL_count { frames := 7, cells := 1, slots := 6, locals := 130 } [.ref (a 0), .int v1, .ref out] ((cu_cw C a (nI N) mn K P) ++ cu_ou C out f) (k_sel (k_oY v1) ((cu_cw C a (nI N) mn K P) ++ cu_ou C out (vp_updL f 0 ((k_tally N K mn v1)).toInt64)) ((cu_cw C a (nI N) mn K P) ++ cu_ou C out f)) (k_hc x_IOB (k_oY v1)) 1 6 := by
  refine cu_openH (cc := cL_count) (maxL := 4) (by decide) rfl rfl (Nat.le_of_ble_eq_true rfl) ?_
  intro p e s m args below meth c A Z H0 ls e0 hx hb hml hts hown htab hG hP hD hS hA hl hT fin
  have hK := hG.1
  have hl : lv_has ls 4 [(0, .ref (a 0)), (1, .int v1), (2, .ref out)] := hl
  refine lv_aload_n hx hb dL_count_0 rfl (lv_at hl 2 rfl) ?_
  refine lv_iconst (v := 0) hx hb dL_count_1 (by decide) ?_
  refine lv_aload_n hx hb dL_count_2 rfl (lv_at hl 0 rfl) ?_
  refine lv_iload_n hx hb dL_count_3 rfl (lv_at hl 1 rfl) ?_
  have sp := cu_sp.pre (w := (cu_cw C a (nI N) mn K P)) (w' := (cu_cw C a (nI N) mn K P)) (Y := cu_ou C out f) rfl
  refine cu_callXI (vx_runV (As := [.int v1]) (rest := [.int 0, .ref out]) ⟨hx, hb, hml, hown, hts⟩ ((m_X1_count l hlf D C a N hN mn K P v1) H0.size) (cwV 1 hts gL_count_X1_count rfl rfl rfl (by decide +kernel) ⟨Nat.le_of_ble_eq_true rfl, Nat.le_of_ble_eq_true rfl⟩) (cu_preXV (ci := 1) sp hG hP hD hT hS hA rfl rfl) rfl rfl hl.1 rfl (lv_room (Nat.le_of_ble_eq_true rfl)) dL_count_4 ⟨Nat.le_of_ble_eq_true rfl, Nat.le_of_ble_eq_true rfl⟩) sp hP hD hS hA (fun E ce q9 H locs hoE hP hD hS hce hcv hcl => ?_) (fun H locs hoN hP hD hS => ?_)
  · have hE : E = x_IOB := k_ox_Y hoE
    subst hE
    refine vx_catch hown [] ⟨0, 9, 12, 21⟩ [] htab (fun z hz => absurd hz List.not_mem_nil) rfl (by decide) (hts (.classLink RL 21 x_IOB) (by decide +kernel)) (va_Nw.use rfl (hG.2.2.2.1 (x_IOB, x_IOB) (by decide +kernel))) hce hcv hcl ?_
    refine W.eq (g2 := F0 m 12 ls [.ref q9]) rfl ?_
    refine lv_astore_n (lv' := [(3, .ref q9), (0, .ref (a 0)), (1, .int v1), (2, .ref out)]) hx hb dL_count_12 rfl hl (by decide) rfl (fun ls hl => ?_)
    refine lv_iconst (v := 1) hx hb dL_count_13 (by decide) ?_
    exact fin _ _ _ _ _ rfl (by rw [hoE]; decide) (by rw [hoE]; exact hP) hS dL_count_14
  · refine lv_i2l (v := ((k_tally N K mn v1)).toInt64) hx hb dL_count_7 rfl ?_
    refine va_last hx hb hK hP hD hS ((cu_cw C a (nI N) mn K P)).length 2 cu_last rfl (vp_in_nI (n := 0) (by decide) (by decide)) dL_count_8 (fun H locs hP hD hS => ?_)
    rw [cu_set_last] at hP hD
    refine lv_goto (tgt := 15) hx hb dL_count_9 (by decide) ?_
    refine lv_iconst (v := 0) hx hb dL_count_15 (by decide) ?_
    exact fin _ _ _ _ _ rfl (by rw [hoN]; rfl) (by rw [hoN]; exact hP) hS dL_count_16

set_option maxHeartbeats 4000000 in
set_option maxRecDepth 100000 in
theorem m_L_pass (l : Launch) (hlf : l.stackTraces = false) (D : va_G) (C : Nat → ClassId) (a : Nat → Nat) (N : Nat) (hN : N ≤ 10) (mn : Int32) (K P : Nat → Nat → Int32) (v1 : Int32) (out : Nat) (f : Nat → Int64) : cu_H l D C yL_pass wsL_pass { frames := 8, cells := 1, slots := 6, locals := 133 } [.ref (a 0), .int v1, .ref out] ((cu_cw C a (nI N) mn K P) ++ cu_ou C out f) (k_sel (k_oM v1) ((cu_cw C a (nI N) (mn + v1) (k_at N mn K v1.toNatClampNeg) P) ++ cu_ou C out (vp_updL f 0 ((k_calls N mn K v1.toNatClampNeg)).toInt64)) ((cu_cw C a (nI N) mn K P) ++ cu_ou C out f)) (k_hc x_IAE (k_oM v1)) 1 6 := by
  refine cu_openH (cc := cL_pass) (maxL := 4) (by decide) rfl rfl (Nat.le_of_ble_eq_true rfl) ?_
  intro p e s m args below meth c A Z H0 ls e0 hx hb hml hts hown htab hG hP hD hS hA hl hT fin
  have hK := hG.1
  have hl : lv_has ls 4 [(0, .ref (a 0)), (1, .int v1), (2, .ref out)] := hl
  refine lv_aload_n hx hb dL_pass_0 rfl (lv_at hl 2 rfl) ?_
  refine lv_iconst (v := 0) hx hb dL_pass_1 (by decide) ?_
  refine lv_aload_n hx hb dL_pass_2 rfl (lv_at hl 0 rfl) ?_
  refine lv_iload_n hx hb dL_pass_3 rfl (lv_at hl 1 rfl) ?_
  have sp := cu_sp.pre (w := (cu_cw C a (nI N) mn K P)) (w' := (cu_cw C a (nI N) (mn + v1) (k_at N mn K v1.toNatClampNeg) P)) (Y := cu_ou C out f) cu_cw_fst
  refine cu_callXI (vx_runV (As := [.int v1]) (rest := [.int 0, .ref out]) ⟨hx, hb, hml, hown, hts⟩ ((m_X1_pass l hlf D C a N hN mn K P v1) H0.size) (cwV 1 hts gL_pass_X1_pass rfl rfl rfl (by decide +kernel) ⟨Nat.le_of_ble_eq_true rfl, Nat.le_of_ble_eq_true rfl⟩) (cu_preXV (ci := 1) sp hG hP hD hT hS hA rfl rfl) rfl rfl hl.1 rfl (lv_room (Nat.le_of_ble_eq_true rfl)) dL_pass_4 ⟨Nat.le_of_ble_eq_true rfl, Nat.le_of_ble_eq_true rfl⟩) sp hP hD hS hA (fun E ce q9 H locs hoE hP hD hS hce hcv hcl => ?_) (fun H locs hoN hP hD hS => ?_)
  · have hE : E = x_IAE := k_ox_M hoE
    subst hE
    refine vx_catch hown [] ⟨0, 9, 12, 13⟩ [] htab (fun z hz => absurd hz List.not_mem_nil) rfl (by decide) (hts (.classLink RL 13 x_IAE) (by decide +kernel)) (va_Nw.use rfl (hG.2.2.2.1 (x_IAE, x_IAE) (by decide +kernel))) hce hcv hcl ?_
    refine W.eq (g2 := F0 m 12 ls [.ref q9]) rfl ?_
    refine lv_astore_n (lv' := [(3, .ref q9), (0, .ref (a 0)), (1, .int v1), (2, .ref out)]) hx hb dL_pass_12 rfl hl (by decide) rfl (fun ls hl => ?_)
    refine lv_iconst (v := 1) hx hb dL_pass_13 (by decide) ?_
    exact fin _ _ _ _ _ rfl (by rw [hoE]; decide) (by rw [hoE]; exact hP) hS dL_pass_14
  · refine lv_i2l (v := ((k_calls N mn K v1.toNatClampNeg)).toInt64) hx hb dL_pass_7 rfl ?_
    refine va_last hx hb hK hP hD hS ((cu_cw C a (nI N) (mn + v1) (k_at N mn K v1.toNatClampNeg) P)).length 2 cu_last rfl (vp_in_nI (n := 0) (by decide) (by decide)) dL_pass_8 (fun H locs hP hD hS => ?_)
    rw [cu_set_last] at hP hD
    refine lv_goto (tgt := 15) hx hb dL_pass_9 (by decide) ?_
    refine lv_iconst (v := 0) hx hb dL_pass_15 (by decide) ?_
    exact fin _ _ _ _ _ rfl (by rw [hoN]; rfl) (by rw [hoN]; exact hP) hS dL_pass_16

set_option maxHeartbeats 4000000 in
set_option maxRecDepth 100000 in
theorem m_L_next (l : Launch) (hlf : l.stackTraces = false) (D : va_G) (C : Nat → ClassId) (a : Nat → Nat) (N : Nat) (hN : N ≤ 10) (mn : Int32) (K P : Nat → Nat → Int32) (v1 : Int32) (h5 : ∀ c, c < N → K c 5 = 0 ∨ K c 5 = 1) (out : Nat) (f : Nat → Int64) : cu_H l D C yL_next wsL_next { frames := 8, cells := 1, slots := 6, locals := 126 } [.ref (a 0), .int v1, .ref out] ((cu_cw C a (nI N) mn K P) ++ cu_ou C out f) (k_sel (k_oC N v1) ((cu_cw C a (nI N) mn K (va_up P v1.toNatClampNeg (k_nextS mn (K v1.toNatClampNeg) 720 0))) ++ cu_ou C out (vp_updL f 0 ((k_next mn (K v1.toNatClampNeg))).toInt64)) ((cu_cw C a (nI N) mn K P) ++ cu_ou C out f)) (k_hc x_IOB (k_oC N v1)) 1 6 := by
  refine cu_openH (cc := cL_next) (maxL := 4) (by decide) rfl rfl (Nat.le_of_ble_eq_true rfl) ?_
  intro p e s m args below meth c A Z H0 ls e0 hx hb hml hts hown htab hG hP hD hS hA hl hT fin
  have hK := hG.1
  have hl : lv_has ls 4 [(0, .ref (a 0)), (1, .int v1), (2, .ref out)] := hl
  refine lv_aload_n hx hb dL_next_0 rfl (lv_at hl 2 rfl) ?_
  refine lv_iconst (v := 0) hx hb dL_next_1 (by decide) ?_
  refine lv_aload_n hx hb dL_next_2 rfl (lv_at hl 0 rfl) ?_
  refine lv_iload_n hx hb dL_next_3 rfl (lv_at hl 1 rfl) ?_
  have sp := cu_sp.pre (w := (cu_cw C a (nI N) mn K P)) (w' := (cu_cw C a (nI N) mn K (va_up P v1.toNatClampNeg (k_nextS mn (K v1.toNatClampNeg) 720 0)))) (Y := cu_ou C out f) cu_cw_fst
  refine cu_callXI (vx_runV (As := [.int v1]) (rest := [.int 0, .ref out]) ⟨hx, hb, hml, hown, hts⟩ ((m_X1_next l hlf D C a N hN mn K P v1 h5) H0.size) (cwV 1 hts gL_next_X1_next rfl rfl rfl (by decide +kernel) ⟨Nat.le_of_ble_eq_true rfl, Nat.le_of_ble_eq_true rfl⟩) (cu_preXV (ci := 1) sp hG hP hD hT hS hA rfl rfl) rfl rfl hl.1 rfl (lv_room (Nat.le_of_ble_eq_true rfl)) dL_next_4 ⟨Nat.le_of_ble_eq_true rfl, Nat.le_of_ble_eq_true rfl⟩) sp hP hD hS hA (fun E ce q9 H locs hoE hP hD hS hce hcv hcl => ?_) (fun H locs hoN hP hD hS => ?_)
  · have hE : E = x_IOB := k_ox_C hoE
    subst hE
    refine vx_catch hown [] ⟨0, 9, 12, 21⟩ [] htab (fun z hz => absurd hz List.not_mem_nil) rfl (by decide) (hts (.classLink RL 21 x_IOB) (by decide +kernel)) (va_Nw.use rfl (hG.2.2.2.1 (x_IOB, x_IOB) (by decide +kernel))) hce hcv hcl ?_
    refine W.eq (g2 := F0 m 12 ls [.ref q9]) rfl ?_
    refine lv_astore_n (lv' := [(3, .ref q9), (0, .ref (a 0)), (1, .int v1), (2, .ref out)]) hx hb dL_next_12 rfl hl (by decide) rfl (fun ls hl => ?_)
    refine lv_iconst (v := 1) hx hb dL_next_13 (by decide) ?_
    exact fin _ _ _ _ _ rfl (by rw [hoE]; decide) (by rw [hoE]; exact hP) hS dL_next_14
  · refine lv_i2l (v := ((k_next mn (K v1.toNatClampNeg))).toInt64) hx hb dL_next_7 rfl ?_
    refine va_last hx hb hK hP hD hS ((cu_cw C a (nI N) mn K (va_up P v1.toNatClampNeg (k_nextS mn (K v1.toNatClampNeg) 720 0)))).length 2 cu_last rfl (vp_in_nI (n := 0) (by decide) (by decide)) dL_next_8 (fun H locs hP hD hS => ?_)
    rw [cu_set_last] at hP hD
    refine lv_goto (tgt := 15) hx hb dL_next_9 (by decide) ?_
    refine lv_iconst (v := 0) hx hb dL_next_15 (by decide) ?_
    exact fin _ _ _ _ _ rfl (by rw [hoN]; rfl) (by rw [hoN]; exact hP) hS dL_next_16

set_option maxHeartbeats 4000000 in
set_option maxRecDepth 100000 in
theorem m_L_stands (l : Launch) (hlf : l.stackTraces = false) (D : va_G) (C : Nat → ClassId) (a : Nat → Nat) (N : Nat) (hN : N ≤ 10) (mn : Int32) (K P : Nat → Nat → Int32) (v1 : Int32) (out : Nat) (f : Nat → Int64) : cu_H l D C yL_stands wsL_stands { frames := 8, cells := 1, slots := 6, locals := 124 } [.ref (a 0), .int v1, .ref out] ((cu_cw C a (nI N) mn K P) ++ cu_ou C out f) (k_sel (k_oC N v1) ((cu_cw C a (nI N) mn K P) ++ cu_ou C out (vp_updL f 0 ((k_stand (K v1.toNatClampNeg))).toInt64)) ((cu_cw C a (nI N) mn K P) ++ cu_ou C out f)) (k_hc x_IOB (k_oC N v1)) 1 6 := by
  refine cu_openH (cc := cL_stands) (maxL := 4) (by decide) rfl rfl (Nat.le_of_ble_eq_true rfl) ?_
  intro p e s m args below meth c A Z H0 ls e0 hx hb hml hts hown htab hG hP hD hS hA hl hT fin
  have hK := hG.1
  have hl : lv_has ls 4 [(0, .ref (a 0)), (1, .int v1), (2, .ref out)] := hl
  refine lv_aload_n hx hb dL_stands_0 rfl (lv_at hl 2 rfl) ?_
  refine lv_iconst (v := 0) hx hb dL_stands_1 (by decide) ?_
  refine lv_aload_n hx hb dL_stands_2 rfl (lv_at hl 0 rfl) ?_
  refine lv_iload_n hx hb dL_stands_3 rfl (lv_at hl 1 rfl) ?_
  have sp := cu_sp.pre (w := (cu_cw C a (nI N) mn K P)) (w' := (cu_cw C a (nI N) mn K P)) (Y := cu_ou C out f) rfl
  refine cu_callXI (vx_runV (As := [.int v1]) (rest := [.int 0, .ref out]) ⟨hx, hb, hml, hown, hts⟩ ((m_X1_stands l hlf D C a N hN mn K P v1) H0.size) (cwV 1 hts gL_stands_X1_stands rfl rfl rfl (by decide +kernel) ⟨Nat.le_of_ble_eq_true rfl, Nat.le_of_ble_eq_true rfl⟩) (cu_preXV (ci := 1) sp hG hP hD hT hS hA rfl rfl) rfl rfl hl.1 rfl (lv_room (Nat.le_of_ble_eq_true rfl)) dL_stands_4 ⟨Nat.le_of_ble_eq_true rfl, Nat.le_of_ble_eq_true rfl⟩) sp hP hD hS hA (fun E ce q9 H locs hoE hP hD hS hce hcv hcl => ?_) (fun H locs hoN hP hD hS => ?_)
  · have hE : E = x_IOB := k_ox_C hoE
    subst hE
    refine vx_catch hown [] ⟨0, 9, 12, 21⟩ [] htab (fun z hz => absurd hz List.not_mem_nil) rfl (by decide) (hts (.classLink RL 21 x_IOB) (by decide +kernel)) (va_Nw.use rfl (hG.2.2.2.1 (x_IOB, x_IOB) (by decide +kernel))) hce hcv hcl ?_
    refine W.eq (g2 := F0 m 12 ls [.ref q9]) rfl ?_
    refine lv_astore_n (lv' := [(3, .ref q9), (0, .ref (a 0)), (1, .int v1), (2, .ref out)]) hx hb dL_stands_12 rfl hl (by decide) rfl (fun ls hl => ?_)
    refine lv_iconst (v := 1) hx hb dL_stands_13 (by decide) ?_
    exact fin _ _ _ _ _ rfl (by rw [hoE]; decide) (by rw [hoE]; exact hP) hS dL_stands_14
  · refine lv_i2l (v := ((k_stand (K v1.toNatClampNeg))).toInt64) hx hb dL_stands_7 rfl ?_
    refine va_last hx hb hK hP hD hS ((cu_cw C a (nI N) mn K P)).length 2 cu_last rfl (vp_in_nI (n := 0) (by decide) (by decide)) dL_stands_8 (fun H locs hP hD hS => ?_)
    rw [cu_set_last] at hP hD
    refine lv_goto (tgt := 15) hx hb dL_stands_9 (by decide) ?_
    refine lv_iconst (v := 0) hx hb dL_stands_15 (by decide) ?_
    exact fin _ _ _ _ _ rfl (by rw [hoN]; rfl) (by rw [hoN]; exact hP) hS dL_stands_16

set_option maxHeartbeats 4000000 in
set_option maxRecDepth 100000 in
theorem m_L_loudest (l : Launch) (hlf : l.stackTraces = false) (D : va_G) (C : Nat → ClassId) (a : Nat → Nat) (N : Nat) (hN : N ≤ 10) (mn : Int32) (K P : Nat → Nat → Int32) (v1 : Int32) (h5 : ∀ c, c < N → K c 5 = 0 ∨ K c 5 = 1) (out : Nat) (f : Nat → Int64) : cu_H l D C yL_loudest wsL_loudest { frames := 8, cells := 1, slots := 6, locals := 135 } [.ref (a 0), .int v1, .ref out] ((cu_cw C a (nI N) mn K P) ++ cu_ou C out f) (k_sel (k_oM v1) ((cu_cw C a (nI N) mn K (k_at N mn (k_cpy K P N) v1.toNatClampNeg)) ++ cu_ou C out (vp_updL f 0 ((k_loud N mn (k_cpy K P N) v1.toNatClampNeg)).toInt64)) ((cu_cw C a (nI N) mn K P) ++ cu_ou C out f)) (k_hc x_IAE (k_oM v1)) 1 6 := by
  refine cu_openH (cc := cL_loudest) (maxL := 4) (by decide) rfl rfl (Nat.le_of_ble_eq_true rfl) ?_
  intro p e s m args below meth c A Z H0 ls e0 hx hb hml hts hown htab hG hP hD hS hA hl hT fin
  have hK := hG.1
  have hl : lv_has ls 4 [(0, .ref (a 0)), (1, .int v1), (2, .ref out)] := hl
  refine lv_aload_n hx hb dL_loudest_0 rfl (lv_at hl 2 rfl) ?_
  refine lv_iconst (v := 0) hx hb dL_loudest_1 (by decide) ?_
  refine lv_aload_n hx hb dL_loudest_2 rfl (lv_at hl 0 rfl) ?_
  refine lv_iload_n hx hb dL_loudest_3 rfl (lv_at hl 1 rfl) ?_
  have sp := cu_sp.pre (w := (cu_cw C a (nI N) mn K P)) (w' := (cu_cw C a (nI N) mn K (k_at N mn (k_cpy K P N) v1.toNatClampNeg))) (Y := cu_ou C out f) cu_cw_fst
  refine cu_callXI (vx_runV (As := [.int v1]) (rest := [.int 0, .ref out]) ⟨hx, hb, hml, hown, hts⟩ ((m_X1_loudest l hlf D C a N hN mn K P v1 h5) H0.size) (cwV 1 hts gL_loudest_X1_loudest rfl rfl rfl (by decide +kernel) ⟨Nat.le_of_ble_eq_true rfl, Nat.le_of_ble_eq_true rfl⟩) (cu_preXV (ci := 1) sp hG hP hD hT hS hA rfl rfl) rfl rfl hl.1 rfl (lv_room (Nat.le_of_ble_eq_true rfl)) dL_loudest_4 ⟨Nat.le_of_ble_eq_true rfl, Nat.le_of_ble_eq_true rfl⟩) sp hP hD hS hA (fun E ce q9 H locs hoE hP hD hS hce hcv hcl => ?_) (fun H locs hoN hP hD hS => ?_)
  · have hE : E = x_IAE := k_ox_M hoE
    subst hE
    refine vx_catch hown [] ⟨0, 9, 12, 13⟩ [] htab (fun z hz => absurd hz List.not_mem_nil) rfl (by decide) (hts (.classLink RL 13 x_IAE) (by decide +kernel)) (va_Nw.use rfl (hG.2.2.2.1 (x_IAE, x_IAE) (by decide +kernel))) hce hcv hcl ?_
    refine W.eq (g2 := F0 m 12 ls [.ref q9]) rfl ?_
    refine lv_astore_n (lv' := [(3, .ref q9), (0, .ref (a 0)), (1, .int v1), (2, .ref out)]) hx hb dL_loudest_12 rfl hl (by decide) rfl (fun ls hl => ?_)
    refine lv_iconst (v := 1) hx hb dL_loudest_13 (by decide) ?_
    exact fin _ _ _ _ _ rfl (by rw [hoE]; decide) (by rw [hoE]; exact hP) hS dL_loudest_14
  · refine lv_i2l (v := ((k_loud N mn (k_cpy K P N) v1.toNatClampNeg)).toInt64) hx hb dL_loudest_7 rfl ?_
    refine va_last hx hb hK hP hD hS ((cu_cw C a (nI N) mn K (k_at N mn (k_cpy K P N) v1.toNatClampNeg))).length 2 cu_last rfl (vp_in_nI (n := 0) (by decide) (by decide)) dL_loudest_8 (fun H locs hP hD hS => ?_)
    rw [cu_set_last] at hP hD
    refine lv_goto (tgt := 15) hx hb dL_loudest_9 (by decide) ?_
    refine lv_iconst (v := 0) hx hb dL_loudest_15 (by decide) ?_
    exact fin _ _ _ _ _ rfl (by rw [hoN]; rfl) (by rw [hoN]; exact hP) hS dL_loudest_16

set_option maxHeartbeats 4000000 in
set_option maxRecDepth 100000 in
theorem m_L_foresee (l : Launch) (hlf : l.stackTraces = false) (D : va_G) (C : Nat → ClassId) (a : Nat → Nat) (N : Nat) (hN : N ≤ 10) (mn : Int32) (K P : Nat → Nat → Int32) (v1 : Int32) (v2 : Int32) (h5 : ∀ c, c < N → K c 5 = 0 ∨ K c 5 = 1) (out : Nat) (f : Nat → Int64) : cu_H l D C yL_foresee wsL_foresee { frames := 8, cells := 2, slots := 12, locals := 134 } [.ref (a 0), .int v1, .int v2, .ref out] ((cu_cw C a (nI N) mn K P) ++ cu_ou C out f) (k_sel ((k_oM v1).or (k_oF v2)) ((cu_cw C a (nI N) mn K (k_at N mn (k_cpy K P N) v1.toNatClampNeg)) ++ cu_ou C out (vp_updL f 0 ((k_fore N mn K (k_cpy K P N) v1.toNatClampNeg v2)).toInt64)) ((cu_cw C a (nI N) mn K P) ++ cu_ou C out f)) (k_hc x_IAE ((k_oM v1).or (k_oF v2))) 2 12 := by
  refine cu_openH (cc := cL_foresee) (maxL := 5) (by decide) rfl rfl (Nat.le_of_ble_eq_true rfl) ?_
  intro p e s m args below meth c A Z H0 ls e0 hx hb hml hts hown htab hG hP hD hS hA hl hT fin
  have hK := hG.1
  have hl : lv_has ls 5 [(0, .ref (a 0)), (1, .int v1), (2, .int v2), (3, .ref out)] := hl
  refine lv_aload_n hx hb dL_foresee_0 rfl (lv_at hl 3 rfl) ?_
  refine lv_iconst (v := 0) hx hb dL_foresee_1 (by decide) ?_
  refine lv_aload_n hx hb dL_foresee_2 rfl (lv_at hl 0 rfl) ?_
  refine lv_iload_n hx hb dL_foresee_3 rfl (lv_at hl 1 rfl) ?_
  refine lv_iload_n hx hb dL_foresee_4 rfl (lv_at hl 2 rfl) ?_
  have sp := cu_sp.pre (w := (cu_cw C a (nI N) mn K P)) (w' := (cu_cw C a (nI N) mn K (k_at N mn (k_cpy K P N) v1.toNatClampNeg))) (Y := cu_ou C out f) cu_cw_fst
  refine cu_callXI (vx_runV (As := [.int v1, .int v2]) (rest := [.int 0, .ref out]) ⟨hx, hb, hml, hown, hts⟩ ((m_X1_foresee l hlf D C a N hN mn K P v1 v2 h5) H0.size) (cwV 2 hts gL_foresee_X1_foresee rfl rfl rfl (by decide +kernel) ⟨Nat.le_of_ble_eq_true rfl, Nat.le_of_ble_eq_true rfl⟩) (cu_preXV (ci := 1) sp hG hP hD hT hS hA rfl rfl) rfl rfl hl.1 rfl (lv_room (Nat.le_of_ble_eq_true rfl)) dL_foresee_5 ⟨Nat.le_of_ble_eq_true rfl, Nat.le_of_ble_eq_true rfl⟩) sp hP hD hS hA (fun E ce q9 H locs hoE hP hD hS hce hcv hcl => ?_) (fun H locs hoN hP hD hS => ?_)
  · have hE : E = x_IAE ∨ E = x_IOB := (k_or_x hoE).elim (fun h => Or.inl (k_ox_M h)) (fun h => Or.inr (k_ox_F h))
    rcases hE with rfl | rfl
    · refine vx_catch hown [] ⟨0, 10, 13, 13⟩ [⟨0, 10, 17, 21⟩] htab (fun z hz => absurd hz List.not_mem_nil) rfl (by decide) (hts (.classLink RL 13 x_IAE) (by decide +kernel)) (va_Nw.use rfl (hG.2.2.2.1 (x_IAE, x_IAE) (by decide +kernel))) hce hcv hcl ?_
      refine W.eq (g2 := F0 m 13 ls [.ref q9]) rfl ?_
      refine lv_astore (lv' := [(4, .ref q9), (0, .ref (a 0)), (1, .int v1), (2, .int v2), (3, .ref out)]) hx hb dL_foresee_13 hl (by decide) rfl (fun ls hl => ?_)
      refine lv_iconst (v := 1) hx hb dL_foresee_15 (by decide) ?_
      exact fin _ _ _ _ _ rfl (by rw [hoE]; decide) (by rw [hoE]; exact hP) hS dL_foresee_16
    · refine vx_catch hown [⟨0, 10, 13, 13⟩] ⟨0, 10, 17, 21⟩ [] htab (fun z hz => by rw [List.mem_singleton.mp hz]; exact Or.inr ⟨by decide, x_IAE, hts (.classLink RL 13 x_IAE) (by decide +kernel), hG.2.2.2.2.1 (x_IOB, x_IAE) (by decide +kernel)⟩) rfl (by decide) (hts (.classLink RL 21 x_IOB) (by decide +kernel)) (va_Nw.use rfl (hG.2.2.2.1 (x_IOB, x_IOB) (by decide +kernel))) hce hcv hcl ?_
      refine W.eq (g2 := F0 m 17 ls [.ref q9]) rfl ?_
      refine lv_astore (lv' := [(4, .ref q9), (0, .ref (a 0)), (1, .int v1), (2, .int v2), (3, .ref out)]) hx hb dL_foresee_17 hl (by decide) rfl (fun ls hl => ?_)
      refine lv_iconst (v := 2) hx hb dL_foresee_19 (by decide) ?_
      exact fin _ _ _ _ _ rfl (by rw [hoE]; decide) (by rw [hoE]; exact hP) hS dL_foresee_20
  · refine lv_i2l (v := ((k_fore N mn K (k_cpy K P N) v1.toNatClampNeg v2)).toInt64) hx hb dL_foresee_8 rfl ?_
    refine va_last hx hb hK hP hD hS ((cu_cw C a (nI N) mn K (k_at N mn (k_cpy K P N) v1.toNatClampNeg))).length 2 cu_last rfl (vp_in_nI (n := 0) (by decide) (by decide)) dL_foresee_9 (fun H locs hP hD hS => ?_)
    rw [cu_set_last] at hP hD
    refine lv_goto (tgt := 21) hx hb dL_foresee_10 (by decide) ?_
    refine lv_iconst (v := 0) hx hb dL_foresee_21 (by decide) ?_
    exact fin _ _ _ _ _ rfl (by rw [hoN]; rfl) (by rw [hoN]; exact hP) hS dL_foresee_22

set_option maxHeartbeats 4000000 in
set_option maxRecDepth 100000 in
theorem m_L_advise (l : Launch) (hlf : l.stackTraces = false) (D : va_G) (C : Nat → ClassId) (a : Nat → Nat) (N : Nat) (hN : N ≤ 10) (mn : Int32) (K P : Nat → Nat → Int32) (v1 : Int32) (out : Nat) (f : Nat → Int64) : cu_H l D C yL_advise wsL_advise { frames := 8, cells := 1, slots := 6, locals := 124 } [.ref (a 0), .int v1, .ref out] ((cu_cw C a (nI N) mn K P) ++ cu_ou C out f) (k_sel (k_oC N v1) ((cu_cw C a (nI N) mn K P) ++ cu_ou C out (vp_updL f 0 ((k_true (K v1.toNatClampNeg))).toInt64)) ((cu_cw C a (nI N) mn K P) ++ cu_ou C out f)) (k_hc x_IOB (k_oC N v1)) 1 6 := by
  refine cu_openH (cc := cL_advise) (maxL := 4) (by decide) rfl rfl (Nat.le_of_ble_eq_true rfl) ?_
  intro p e s m args below meth c A Z H0 ls e0 hx hb hml hts hown htab hG hP hD hS hA hl hT fin
  have hK := hG.1
  have hl : lv_has ls 4 [(0, .ref (a 0)), (1, .int v1), (2, .ref out)] := hl
  refine lv_aload_n hx hb dL_advise_0 rfl (lv_at hl 2 rfl) ?_
  refine lv_iconst (v := 0) hx hb dL_advise_1 (by decide) ?_
  refine lv_aload_n hx hb dL_advise_2 rfl (lv_at hl 0 rfl) ?_
  refine lv_iload_n hx hb dL_advise_3 rfl (lv_at hl 1 rfl) ?_
  have sp := cu_sp.pre (w := (cu_cw C a (nI N) mn K P)) (w' := (cu_cw C a (nI N) mn K P)) (Y := cu_ou C out f) rfl
  refine cu_callXI (vx_runV (As := [.int v1]) (rest := [.int 0, .ref out]) ⟨hx, hb, hml, hown, hts⟩ ((m_X1_advise l hlf D C a N hN mn K P v1) H0.size) (cwV 1 hts gL_advise_X1_advise rfl rfl rfl (by decide +kernel) ⟨Nat.le_of_ble_eq_true rfl, Nat.le_of_ble_eq_true rfl⟩) (cu_preXV (ci := 1) sp hG hP hD hT hS hA rfl rfl) rfl rfl hl.1 rfl (lv_room (Nat.le_of_ble_eq_true rfl)) dL_advise_4 ⟨Nat.le_of_ble_eq_true rfl, Nat.le_of_ble_eq_true rfl⟩) sp hP hD hS hA (fun E ce q9 H locs hoE hP hD hS hce hcv hcl => ?_) (fun H locs hoN hP hD hS => ?_)
  · have hE : E = x_IOB := k_ox_C hoE
    subst hE
    refine vx_catch hown [] ⟨0, 9, 12, 21⟩ [] htab (fun z hz => absurd hz List.not_mem_nil) rfl (by decide) (hts (.classLink RL 21 x_IOB) (by decide +kernel)) (va_Nw.use rfl (hG.2.2.2.1 (x_IOB, x_IOB) (by decide +kernel))) hce hcv hcl ?_
    refine W.eq (g2 := F0 m 12 ls [.ref q9]) rfl ?_
    refine lv_astore_n (lv' := [(3, .ref q9), (0, .ref (a 0)), (1, .int v1), (2, .ref out)]) hx hb dL_advise_12 rfl hl (by decide) rfl (fun ls hl => ?_)
    refine lv_iconst (v := 1) hx hb dL_advise_13 (by decide) ?_
    exact fin _ _ _ _ _ rfl (by rw [hoE]; decide) (by rw [hoE]; exact hP) hS dL_advise_14
  · refine lv_i2l (v := ((k_true (K v1.toNatClampNeg))).toInt64) hx hb dL_advise_7 rfl ?_
    refine va_last hx hb hK hP hD hS ((cu_cw C a (nI N) mn K P)).length 2 cu_last rfl (vp_in_nI (n := 0) (by decide) (by decide)) dL_advise_8 (fun H locs hP hD hS => ?_)
    rw [cu_set_last] at hP hD
    refine lv_goto (tgt := 15) hx hb dL_advise_9 (by decide) ?_
    refine lv_iconst (v := 0) hx hb dL_advise_15 (by decide) ?_
    exact fin _ _ _ _ _ rfl (by rw [hoN]; rfl) (by rw [hoN]; exact hP) hS dL_advise_16
