/-! methods that return or throw: o names the exception, if there is one; then nothing is changed -/
def cu_nms : List String := ["java/lang/RuntimeException", "java/lang/Exception"]
abbrev x_IAE : String := "java/lang/IllegalArgumentException"
abbrev x_ISE : String := "java/lang/IllegalStateException"
abbrev x_IOB : String := "java/lang/IndexOutOfBoundsException"
theorem cu_at_IAE : ∀ w ∈ (vx_atS RX1 51 x_IAE cu_nms).filter (fun w => !goodWord w), w ∈ Cond.castable x_IAE x_IAE :: cu_decls.map Cond.declares := by decide +kernel
theorem cu_at_ISE : ∀ w ∈ (vx_atS RX1 34 x_ISE cu_nms).filter (fun w => !goodWord w), w ∈ Cond.castable x_ISE x_ISE :: cu_decls.map Cond.declares := by decide +kernel
theorem cu_at_IOB : ∀ w ∈ (vx_atS RX1 90 x_IOB cu_nms).filter (fun w => !goodWord w), w ∈ Cond.castable x_IOB x_IOB :: cu_decls.map Cond.declares := by decide +kernel
theorem cu_gd_IAE : ∀ w ∈ Cond.classLink RX1 47 x_IAE :: Cond.initialized x_IAE :: vx_atS RX1 51 x_IAE cu_nms, vx_ot w = true := by decide +kernel
theorem cu_gd_ISE : ∀ w ∈ Cond.classLink RX1 30 x_ISE :: Cond.initialized x_ISE :: vx_atS RX1 34 x_ISE cu_nms, vx_ot w = true := by decide +kernel
theorem cu_gd_IOB : ∀ w ∈ Cond.classLink RX1 86 x_IOB :: Cond.initialized x_IOB :: vx_atS RX1 90 x_IOB cu_nms, vx_ot w = true := by decide +kernel
/-- the three kinds of throw: the class, the place of its name, of its constructor -/
def cu_th (cls : String) (ik ic : Nat) : Prop := Bundle.fit cls = true ∧ (∀ w ∈ (vx_atS RX1 ic cls cu_nms).filter (fun w => !goodWord w), w ∈ Cond.castable cls cls :: cu_decls.map Cond.declares) ∧ (∀ w ∈ Cond.classLink RX1 ik cls :: Cond.initialized cls :: vx_atS RX1 ic cls cu_nms, vx_ot w = true) ∧ (cls, cls) ∈ cu_casts
theorem cu_th_IAE : cu_th x_IAE 47 51 := ⟨by decide +kernel, cu_at_IAE, cu_gd_IAE, by decide +kernel⟩
theorem cu_th_ISE : cu_th x_ISE 30 34 := ⟨by decide +kernel, cu_at_ISE, cu_gd_ISE, by decide +kernel⟩
theorem cu_th_IOB : cu_th x_IOB 86 90 := ⟨by decide +kernel, cu_at_IOB, cu_gd_IOB, by decide +kernel⟩
def cu_T (A : Nat → Prop) (U : State) (H : Heap) : Prop := vx_Zq Bundle.tN "UNASSIGNED_STACK" Bundle.steD A U H ∧ vx_Zq Bundle.tN "SUPPRESSED_SENTINEL" Bundle.listD A U H
def cu_BT (D : va_G) (C : Nat → ClassId) (w : va_W) (sz : Nat) (U : State) : Prop := cu_B D C w sz U ∧ cu_T (va_A w sz) U U.heap
theorem cu_blindT {D : va_G} {C : Nat → ClassId} {w : va_W} {sz : Nat} {av : List Value} : FrameBlind (va_Pc av (cu_BT D C w sz)) := by
  intro a U g mk q
  obtain ⟨q0, q1, q2, q3⟩ := q
  have ha : U.vm.Alike (U.calling g mk a).vm := Vm.Alike.refl U.vm
  exact ⟨q0, (cu_blind (av := av) a U g mk ⟨q0, q1⟩).2, vx_Zq.moved ha q2, vx_Zq.moved ha q3⟩
def cu_XI (l : Launch) (D : va_G) (C : Nat → ClassId) (y : MethodName) (ws : List Cond) (rm : Room) (av : List Value) (w w' : va_W) (o : Option String) (val : Int32) (mc ms : Nat) : Prop :=
  ∀ sz : Nat, vx_Met l y ws rm (va_Pc av (cu_BT D C w sz)) (va_Qi (fun (r : Int32) (_ : Unit) => o = none ∧ r = val) (fun _ t => va_P D vwCl w' t.heap) (va_A w sz)) (vx_X (fun _ : Unit => True) (fun E _ t => o = some E ∧ va_P D vwCl w t.heap) (va_A w sz)) mc ms (va_A w sz)
def cu_XV (l : Launch) (D : va_G) (C : Nat → ClassId) (y : MethodName) (ws : List Cond) (rm : Room) (av : List Value) (w w' : va_W) (o : Option String) (mc ms : Nat) : Prop :=
  ∀ sz : Nat, vx_Met l y ws rm (va_Pc av (cu_BT D C w sz)) (va_Qv (fun (_ : Unit) => o = none) (fun _ t => va_P D vwCl w' t.heap) (va_A w sz)) (vx_X (fun _ : Unit => True) (fun E _ t => o = some E ∧ va_P D vwCl w t.heap) (va_A w sz)) mc ms (va_A w sz)
section CUX
variable {l : Launch} {D : va_G} {C : Nat → ClassId} {y : MethodName} {ws ws' : List Cond} {rm : Room} {av : List Value} {w w' : va_W} {mc ms maxL : Nat} {cc : ByteArray} {o : Option String}
/-- a throw, and an exception of a callee's that goes on -/
def cu_Thr (D : va_G) (p : Program) (l : Launch) (e : Env) (rm : Room) (s : State) (m : MethodId) (args : Array Value) (below : List Frame) (meth : Method) (c : Code) (cc : ByteArray) (ws : List Cond) (maxL mc ms : Nat) (o : Option String) (w : va_W) (A : Nat → Prop) (Z : State → Prop) (H0 : Heap) : Prop :=
  ∀ (cls text : String) (ik is ic : Nat) (H : Heap) (locs : List Loc) (pc : Nat) (ls : Array Slot) (rest : List Value) (cells slots : Nat), cu_th cls ik ic → (Cond.classLink RX1 ik cls).before args s = true → (Cond.initialized cls).before args s = true → (is, text) ∈ cu_txts → (∀ w ∈ (vx_atS RX1 ic cls cu_nms).filter goodWord, w ∈ ws) →
    va_S A H0 H locs → ls.size = maxL → decode cc pc = .ok (.new ik, 3) → decode cc (pc + 3) = .ok (.dup, 1) → decode cc (pc + 4) = .ok (.ldc is, 2) → decode cc (pc + 6) = .ok (.invokespecial ic, 3) → decode cc (pc + 9) = .ok (.athrow, 1) →
    5 < rm.frames → (rest.map fun v => v.category).sum + 82 ≤ rm.locals → cells + 1 ≤ rm.cells → slots + 6 ≤ rm.slots → cells + 1 ≤ mc → slots + 6 ≤ ms → o = some cls → va_P D vwCl w H →
    W p l e rm s m args below meth c H locs cells slots Z (F0 m pc ls rest)
def cu_Prop (D : va_G) (p : Program) (l : Launch) (e : Env) (rm : Room) (s : State) (m : MethodId) (args : Array Value) (below : List Frame) (meth : Method) (c : Code) (mc ms : Nat) (o : Option String) (w : va_W) (A : Nat → Prop) (Z : State → Prop) (H0 : Heap) : Prop :=
  ∀ (E : String) (ce : Cell) (q : Addr) (H : Heap) (locs : List Loc) (pc : Nat) (ls : Array Slot) (rest : List Value) (cells slots : Nat), o = some E → va_P D vwCl w H → va_S A H0 H locs → H[q]? = some ce → ce.vm = .none → s.vm.findClass E = some ce.cls → cells ≤ mc → slots ≤ ms →
    vx_W p l e rm s m args below meth c H locs cells slots Z (F0 m pc ls rest) q
theorem cu_thr {p : Program} {e : Env} {s s₁ : State} {m : MethodId} {args : Array Value} {below : List Frame} {meth : Method} {c : Code} {ret : Option FieldType} {Qc : Array Value → State → Outcome → State → Prop} (hlf : l.stackTraces = false) (ho : y.cls = RX1) (B : BodyLoose p l y (headSpec ws rm) cc maxL ret e s m args below meth c s₁) (hml : c.maxLocals = maxL) (ht : ∀ x ∈ c.exceptionTable.toList, False) (hG : cu_G D C s) (hT : cu_T (va_A w s.heap.size) s s.heap) :
    cu_Thr D p l e rm s m args below meth c cc ws maxL mc ms o w (va_A w s.heap.size) (vx_MQ below Qc (vx_X (fun _ : Unit => True) (fun E _ t => o = some E ∧ va_P D vwCl w t.heap) (va_A w s.heap.size)) args s mc ms (va_A w s.heap.size)) s.heap := by
  intro cls text ik is ic H locs pc ls rest cells slots hth hk hini htx hws hS hls d0 d3 d4 d6 d9 hf hlo hc hs hc2 hs2 hoo hP
  obtain ⟨h1, h2, h3, h4⟩ := hth
  obtain ⟨sa, hsa⟩ := hG.2.2.2.2.2.1 _ htx
  have hts := atoms_spec (ws := ws) B.pre
  refine vx_throwS (names := cu_nms) (text := text) (sa := sa) B.exec B.bytes hlf (by rw [← ho]; exact findClass_of_methodNamed B.named) h1 (by decide +kernel) hk hini hsa (vx_hat (fun w hw => hts w (hws w hw)) h2 (vx_c (va_Nw.use rfl (hG.2.2.2.1 _ h4)) (fun w hw => by obtain ⟨z, hz, rfl⟩ := List.mem_map.mp hw; exact va_Nw.use rfl (hG.2.2.2.2.2.2.1 z hz)))) h3 hT.1 hT.2 hS (hls.trans hml.symm) d0 d3 d4 d6 d9 (fun x hx => (ht x hx).elim) hf hlo hc hs B.notSynchronized (fun t _ hz hq => ?_) hS.2.2 hc2 hs2
  refine ⟨(), trivial, ⟨hoo, hP.kept (fun k q hk => hq q.1 (hP k q hk).lt)⟩, Nat.le_trans hS.1 hz, fun q h8 h9 => ?_⟩
  rw [hq q (Nat.lt_of_lt_of_le h8 hS.1)]
  exact hS.2.1 q h8 h9
theorem cu_prop {p : Program} {e : Env} {s s₁ : State} {m : MethodId} {args : Array Value} {below : List Frame} {meth : Method} {c : Code} {ret : Option FieldType} {Qc : Array Value → State → Outcome → State → Prop} (B : BodyLoose p l y (headSpec ws rm) cc maxL ret e s m args below meth c s₁) (ht : ∀ x ∈ c.exceptionTable.toList, False) :
    cu_Prop D p l e rm s m args below meth c mc ms o w (va_A w s.heap.size) (vx_MQ below Qc (vx_X (fun _ : Unit => True) (fun E _ t => o = some E ∧ va_P D vwCl w t.heap) (va_A w s.heap.size)) args s mc ms (va_A w s.heap.size)) s.heap := by
  intro E ce q H locs pc ls rest cells slots hoo hP hS hce hcv hcl hc hs
  refine vx_out (E := E) (ce := ce) (fun x hx => (ht x hx).elim) B.notSynchronized hce hcv hcl (fun t ht _ => ?_) hS.2.2 hc hs
  exact ⟨(), trivial, ⟨hoo, by show va_P D vwCl w t.heap; rw [ht]; exact hP⟩, hS.F ht⟩
set_option maxHeartbeats 1000000 in
theorem cu_openXI {val : Int32} {ty : FieldType} (hlf : l.stackTraces = false) (hy : plainName y.cls = true) (ho : y.cls = RX1) (hw : ws = Cond.code y cc maxL (some ty) :: ws') (hz : (lg_sl av).length ≤ maxL)
    (body : ∀ (p : Program) (e : Env) (s : State) (m : MethodId) (args : Array Value) (below : List Frame) (meth : Method) (c : Code) (A : Nat → Prop) (Z : State → Prop) (H0 : Heap) (ls : Array Slot), s.heap = H0 → p.tables.exec = Jvm.exec → c.code = cc → c.maxLocals = maxL → (∀ w ∈ ws, w.before args s = true) → s.vm.findClass RX1 = some m.cls → meth.name = y.name → cu_G D C s → va_P D vwCl w H0 → va_D A w → va_S A H0 H0 [] → (∀ q : Nat, H0.size ≤ q → A q) → lv_has ls maxL (lv_args 0 av) → cu_T A s H0 →
      (∀ (v : Int32) (H : Heap) (locs : List Loc) (pc : Nat) (ls : Array Slot), narrow ty (.int v) = .int v → o = none → v = val → va_P D vwCl w' H → va_S A H0 H locs → decode cc pc = .ok (.ireturn, 1) → W p l e rm s m args below meth c H locs mc ms Z (F0 m pc ls [.int v])) →
      cu_Thr D p l e rm s m args below meth c cc ws maxL mc ms o w A Z H0 → cu_Prop D p l e rm s m args below meth c mc ms o w A Z H0 →
      W p l e rm s m args below meth c H0 [] 0 0 Z (F0 m 0 ls [])) : cu_XI l D C y ws rm av w w' o val mc ms := by
  intro sz
  refine vx_ofW (cc := cc) (maxL := maxL) (ret := some ty) hy hw ?_
  intro p e s m args below meth c s₁ B hml ht hv
  obtain ⟨rfl, ⟨hsz, hP, hD0, hG⟩, hT⟩ := hv
  subst hsz
  have hl := lv_entry av (n := maxL) hz
  rw [lg_entry_eq]
  refine body p e s m _ below meth c (va_A w s.heap.size) _ _ _ rfl B.exec B.bytes hml (atoms_spec (ws := ws) B.pre) (by rw [← ho]; exact findClass_of_methodNamed B.named) (name_of_methodNamed B.named B.method).1 hG hP hD0.self va_S.rf (fun q h => Or.inr h) hl hT ?_ (cu_thr hlf ho B hml ht hG hT) (cu_prop B ht)
  intro v H locs pc ls hn hon hv hP hS hd
  exact vx_ret (W.zret (v := v) B.exec B.bytes B.returns hn (fun t ht hW => ⟨⟨v, (), rfl, ⟨hon, hv⟩, by show va_P D vwCl w' t.heap; rw [ht]; exact hP⟩, hS.F ht⟩) hS.2.2 hd)
set_option maxHeartbeats 1000000 in
theorem cu_openXV (hlf : l.stackTraces = false) (hy : plainName y.cls = true) (ho : y.cls = RX1) (hw : ws = Cond.code y cc maxL none :: ws') (hz : (lg_sl av).length ≤ maxL)
    (body : ∀ (p : Program) (e : Env) (s : State) (m : MethodId) (args : Array Value) (below : List Frame) (meth : Method) (c : Code) (A : Nat → Prop) (Z : State → Prop) (H0 : Heap) (ls : Array Slot), s.heap = H0 → p.tables.exec = Jvm.exec → c.code = cc → c.maxLocals = maxL → (∀ w ∈ ws, w.before args s = true) → s.vm.findClass RX1 = some m.cls → meth.name = y.name → cu_G D C s → va_P D vwCl w H0 → va_D A w → va_S A H0 H0 [] → (∀ q : Nat, H0.size ≤ q → A q) → lv_has ls maxL (lv_args 0 av) → cu_T A s H0 →
      (∀ (H : Heap) (locs : List Loc) (pc : Nat) (ls : Array Slot), o = none → va_P D vwCl w' H → va_S A H0 H locs → decode cc pc = .ok (.return_, 1) → W p l e rm s m args below meth c H locs mc ms Z (F0 m pc ls [])) →
      cu_Thr D p l e rm s m args below meth c cc ws maxL mc ms o w A Z H0 → cu_Prop D p l e rm s m args below meth c mc ms o w A Z H0 →
      W p l e rm s m args below meth c H0 [] 0 0 Z (F0 m 0 ls [])) : cu_XV l D C y ws rm av w w' o mc ms := by
  intro sz
  refine vx_ofW (cc := cc) (maxL := maxL) (ret := none) hy hw ?_
  intro p e s m args below meth c s₁ B hml ht hv
  obtain ⟨rfl, ⟨hsz, hP, hD0, hG⟩, hT⟩ := hv
  subst hsz
  have hl := lv_entry av (n := maxL) hz
  rw [lg_entry_eq]
  refine body p e s m _ below meth c (va_A w s.heap.size) _ _ _ rfl B.exec B.bytes hml (atoms_spec (ws := ws) B.pre) (by rw [← ho]; exact findClass_of_methodNamed B.named) (name_of_methodNamed B.named B.method).1 hG hP hD0.self va_S.rf (fun q h => Or.inr h) hl hT ?_ (cu_thr hlf ho B hml ht hG hT) (cu_prop B ht)
  intro H locs pc ls hon hP hS hd
  exact vx_ret (W.vret B.exec B.bytes B.returns (fun t ht hW => ⟨⟨(), rfl, hon, by show va_P D vwCl w' t.heap; rw [ht]; exact hP⟩, hS.F ht⟩) hS.2.2 hd)
end CUX
theorem cu_sp.back {W0 w W1 w' : va_W} (h : cu_sp W0 w W1 w') : cu_sp W0 w W0 w := by
  refine ⟨h.1, h.2.1, rfl, fun hn q hq => ?_⟩
  by_cases hm : q.1 ∈ w.map Prod.fst
  · obtain ⟨z, hz, e⟩ := List.mem_map.mp hm
    obtain ⟨i, hi⟩ := List.getElem?_of_mem hq
    obtain ⟨j, hj⟩ := List.getElem?_of_mem (h.1 z hz)
    have e9 := cu_nd2 hn hi hj e.symm
    subst e9
    rw [hi] at hj
    exact Or.inl (by rw [Option.some.inj hj]; exact hz)
  · exact Or.inr ⟨hq, hm⟩
section CUXC
variable {p : Program} {l : Launch} {e : Env} {R : Room} {s : State} {m : MethodId} {args : Array Value} {below : List Frame} {meth : Method} {c : Code} {H : Heap} {locs : List Loc} {cells slots : Nat} {Q : State → Prop}
variable {pc : Nat} {ls : Array Slot} {rest st0 : List Value} {a : Array Value} {A : Nat → Prop} {H0 : Heap} {mc ms : Nat} {D : va_G} {C : Nat → ClassId} {W0 w W1 w' : va_W} {b : Nat} {As : List Value} {o : Option String}
theorem cu_T_in {U : State} (sp : cu_sp W0 w W1 w') (hD : va_D A W0) (hT : cu_T A s H0) (hS : va_S A H0 H locs) (hA : ∀ q : Nat, H0.size ≤ q → A q) (hU : U.heap = H) (hW : s.WarmedH U.vm) : cu_T (va_A w H.size) U U.heap := by
  have hF := sp.F hD hS hA
  rw [hU]
  exact ⟨vx_Zq.moved hW.alike ((vx_Zq.kept hT.1 hS.2.1).narrow hF), vx_Zq.moved hW.alike ((vx_Zq.kept hT.2 hS.2.1).narrow hF)⟩
theorem cu_preXV {ci : Nat} {fs : List Value} {q : vw_C} (sp : cu_sp W0 w W1 w') (hG : cu_G D C s) (hP : va_P D vwCl W0 H) (hD : va_D A W0) (hT : cu_T A s H0) (hS : va_S A H0 H locs) (hA : ∀ q : Nat, H0.size ≤ q → A q) (he : w[0]? = some (b, .inr (ci, fs))) (hc : vwCl[ci]? = some q) : PreV s H q.1 b (va_Pc (.ref b :: As) (cu_BT D C w H.size)) As :=
  ⟨cu_blindT, va_recv hG.1 (sp.P hP) hc he, fun U hU hW => ⟨rfl, ⟨by rw [hU], by rw [hU]; exact sp.P hP, (sp.D hD).weaken (fun _ _ _ _ => trivial), hG.warm hW⟩, cu_T_in sp hD hT hS hA hU hW⟩⟩
theorem cu_preXS (sp : cu_sp W0 w W1 w') (hG : cu_G D C s) (hP : va_P D vwCl W0 H) (hD : va_D A W0) (hT : cu_T A s H0) (hS : va_S A H0 H locs) (hA : ∀ q : Nat, H0.size ≤ q → A q) : PreS s H (va_Pc As (cu_BT D C w H.size)) As :=
  ⟨cu_blindT, fun U hU hW => ⟨rfl, ⟨by rw [hU], by rw [hU]; exact sp.P hP, (sp.D hD).weaken (fun _ _ _ _ => trivial), hG.warm hW⟩, cu_T_in sp hD hT hS hA hU hW⟩⟩
theorem cu_callXV (hr : vx_Run p l e R s m args below meth c H locs cells slots mc ms (F0 m pc ls st0) rest (va_Qv (fun (_ : Unit) => o = none) (fun _ t => va_P D vwCl w' t.heap) (va_A w H.size) a) (vx_X (fun _ : Unit => True) (fun E _ t => o = some E ∧ va_P D vwCl w t.heap) (va_A w H.size)) (va_A w H.size)) (sp : cu_sp W0 w W1 w') (hP : va_P D vwCl W0 H) (hD : va_D A W0) (hS : va_S A H0 H locs) (hA : ∀ q : Nat, H0.size ≤ q → A q)
    (kx : ∀ (E : String) (ce : Cell) (q : Addr) (H1 : Heap) (locs1 : List Loc), o = some E → va_P D vwCl W0 H1 → va_S A H0 H1 locs1 → H1[q]? = some ce → ce.vm = .none → s.vm.findClass E = some ce.cls → vx_W p l e R s m args below meth c H1 locs1 (cells + mc) (slots + ms) Q (F0 m pc ls rest) q)
    (kk : ∀ (H1 : Heap) (locs1 : List Loc), o = none → va_P D vwCl W1 H1 → va_D A W1 → va_S A H0 H1 locs1 → W p l e R s m args below meth c H1 locs1 (cells + mc) (slots + ms) Q (F0 m (pc + 3) ls rest)) : W p l e R s m args below meth c H locs cells slots Q (F0 m pc ls st0) := by
  have hF := sp.F hD hS hA
  refine vx_callv hr hS (fun q _ h => hF q h) hF (fun q _ h => hF q h) (fun E ce q9 u t H1 locs1 ht _ _ hB _ hk hS1 hce hcv hcl => ?_) (fun u t H1 locs1 ht _ hpost hB hz hk hS1 => ?_)
  · obtain ⟨hoo, hB⟩ := hB
    rw [ht] at hB
    exact kx E ce q9 H1 locs1 hoo (sp.back.join hP hD hk hB) hS1 hce hcv hcl
  · rw [ht] at hB
    exact kk H1 locs1 hpost (sp.join hP hD hk hB) (cu_D_fst sp.fst hD) hS1
theorem cu_callXI {val : Int32} (hr : vx_Run p l e R s m args below meth c H locs cells slots mc ms (F0 m pc ls st0) rest (va_Qi (fun (r : Int32) (_ : Unit) => o = none ∧ r = val) (fun _ t => va_P D vwCl w' t.heap) (va_A w H.size) a) (vx_X (fun _ : Unit => True) (fun E _ t => o = some E ∧ va_P D vwCl w t.heap) (va_A w H.size)) (va_A w H.size)) (sp : cu_sp W0 w W1 w') (hP : va_P D vwCl W0 H) (hD : va_D A W0) (hS : va_S A H0 H locs) (hA : ∀ q : Nat, H0.size ≤ q → A q)
    (kx : ∀ (E : String) (ce : Cell) (q : Addr) (H1 : Heap) (locs1 : List Loc), o = some E → va_P D vwCl W0 H1 → va_D A W0 → va_S A H0 H1 locs1 → H1[q]? = some ce → ce.vm = .none → s.vm.findClass E = some ce.cls → vx_W p l e R s m args below meth c H1 locs1 (cells + mc) (slots + ms) Q (F0 m pc ls rest) q)
    (kk : ∀ (H1 : Heap) (locs1 : List Loc), o = none → va_P D vwCl W1 H1 → va_D A W1 → va_S A H0 H1 locs1 → W p l e R s m args below meth c H1 locs1 (cells + mc) (slots + ms) Q (F0 m (pc + 3) ls (.int val :: rest))) : W p l e R s m args below meth c H locs cells slots Q (F0 m pc ls st0) := by
  have hF := sp.F hD hS hA
  refine vx_calli hr hS (fun q _ h => hF q h) hF (fun q _ h => hF q h) (fun E ce q9 u t H1 locs1 ht _ _ hB _ hk hS1 hce hcv hcl => ?_) (fun r u t H1 locs1 ht _ hpost hB hz hk hS1 => ?_)
  · obtain ⟨hoo, hB⟩ := hB
    rw [ht] at hB
    exact kx E ce q9 H1 locs1 hoo (sp.back.join hP hD hk hB) hD hS1 hce hcv hcl
  · obtain ⟨hon, rfl⟩ := hpost
    rw [ht] at hB
    exact kk H1 locs1 hon (sp.join hP hD hk hB) (cu_D_fst sp.fst hD) hS1
end CUXC
