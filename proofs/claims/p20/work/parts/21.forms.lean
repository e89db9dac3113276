/-! p20's own forms: spans in spans, cells by membership, methods with more than a world -/
theorem cu_sp.trans {W0 X W1 X' w w' : va_W} (h : cu_sp W0 X W1 X') (h2 : cu_sp X w X' w') : cu_sp W0 w W1 w' := by
  refine ⟨fun q hq => h.1 q (h2.1 q hq), fun hn => h2.2.1 (h.2.1 hn), h.2.2.1, fun hn q hq => ?_⟩
  rcases h.2.2.2 hn q hq with h1 | ⟨h1, h3⟩
  · rcases h2.2.2.2 (h.2.1 hn) q h1 with h4 | ⟨h4, h5⟩
    · exact Or.inl h4
    · exact Or.inr ⟨h.1 q h4, h5⟩
  · refine Or.inr ⟨h1, fun hz => h3 ?_⟩
    obtain ⟨z, hz1, hz2⟩ := List.mem_map.mp hz
    exact List.mem_map.mpr ⟨z, h2.1 z hz1, hz2⟩
/-- one cell written -/
theorem cu_sp.put {D : va_G} {A : Nat → Prop} {W0 W1 : va_W} {H : Heap} {k a : Nat} {e0 e1 : va_E} (h : cu_sp W0 [(a, e0)] W1 [(a, e1)]) (hk : W0[k]? = some (a, e0)) (hD : va_D A W0) (hP : va_P D vwCl (W0.set k (a, e1)) H) : va_P D vwCl W1 H := by
  intro i q hq
  have hn := (cu_Diff.mp hD).1
  have hl := (List.getElem?_eq_some_iff.mp hk).1
  rcases h.2.2.2 hn q (List.mem_of_getElem? hq) with h1 | ⟨h1, h2⟩
  · rw [List.mem_singleton.mp h1]
    exact hP k _ (List.getElem?_set_self hl)
  · obtain ⟨j, hj⟩ := List.getElem?_of_mem h1
    have hjk : j ≠ k := fun e => by
      subst e
      rw [hk] at hj
      cases hj
      exact h2 (by simp)
    exact hP j q (by rw [List.getElem?_set_ne (Ne.symm hjk)]; exact hj)
theorem cu_sp.rdm {W0 : va_W} {a : Nat} {e0 : va_E} (h : (a, e0) ∈ W0) : cu_sp W0 [(a, e0)] W0 [(a, e0)] := by
  obtain ⟨k, hk⟩ := List.getElem?_of_mem h
  exact cu_sp.rd hk
theorem cu_sp.mem {W0 W1 w' : va_W} {a : Nat} {e0 : va_E} (h : cu_sp W0 [(a, e0)] W1 w') : (a, e0) ∈ W0 := h.1 _ (List.mem_singleton_self _)
/-- a row of cells -/
def cu_lst (N : Nat) (f : Nat → Nat × va_E) : va_W := (List.range N).map f
theorem cu_lst_at {N i : Nat} {f : Nat → Nat × va_E} (h : i < N) : (cu_lst N f)[i]? = some (f i) := by simp [cu_lst, h]
theorem cu_lst_len {N : Nat} {f : Nat → Nat × va_E} : (cu_lst N f).length = N := by simp [cu_lst]
theorem cu_lst_mem {N i : Nat} {f : Nat → Nat × va_E} (h : i < N) : f i ∈ cu_lst N f := List.mem_of_getElem? (cu_lst_at h)
theorem cu_lst_sp {N i a : Nat} {f f' : Nat → Nat × va_E} {e0 e1 : va_E} (h : i < N) (h0 : f i = (a, e0)) (h1 : f' i = (a, e1)) (hr : ∀ j, j ≠ i → f' j = f j) : cu_sp (cu_lst N f) [(a, e0)] (cu_lst N f') [(a, e1)] := by
  have q := cu_sp.one e1 ((cu_lst_at (f := f) h).trans (congrArg some h0))
  have e : (cu_lst N f).set i (a, e1) = cu_lst N f' := by
    apply List.ext_getElem?
    intro j
    by_cases hj : j = i
    · subst hj
      rw [List.getElem?_set_self (by rw [cu_lst_len]; exact h), cu_lst_at h, h1]
    · rw [List.getElem?_set_ne (Ne.symm hj)]
      by_cases hj2 : j < N
      · rw [cu_lst_at hj2, cu_lst_at hj2, hr j hj]
      · rw [List.getElem?_eq_none (by rw [cu_lst_len]; omega), List.getElem?_eq_none (by rw [cu_lst_len]; omega)]
  rw [e] at q
  exact q
theorem cu_lst_ext {N : Nat} {f g : Nat → Nat × va_E} (h : ∀ i, i < N → f i = g i) : cu_lst N f = cu_lst N g := by
  unfold cu_lst
  apply List.map_congr_left
  intro i hi
  exact h i (List.mem_range.mp hi)
/-- the law's clock: its cell -/
abbrev cu_lk (K : Nat → Int32) : List Value := [.int (K 9), .int (K 10), .int (K 11), .int (K 0), .int (K 1), .int (K 2), .int (K 3), .int (K 4), .int (K 5), .int (K 6), .int (K 7), .int (K 8), .int (K 12), .int (K 13)]
abbrev cu_el (K : Nat → Int32) : va_E := .inr (2, cu_lk K)
abbrev cu_wl (h : Nat) (K : Nat → Int32) : va_W := [(h, cu_el K)]
/-- the law's shop by hand: its object, its row, N clocks -/
def cu_sm (C : Nat → ClassId) (o r : Nat) (g : Nat → Nat) (N : Nat) (mn : Int32) (M : Nat → Nat → Int32) : va_W :=
  (o, .inr (3, [.ref r, .int mn])) :: (r, .inl (C 2, N, .inr (.inr (.inr (.inr (fun i => some (g i))))))) :: cu_lst N (fun i => (g i, cu_el (M i)))
section CSM
variable {C : Nat → ClassId} {o r : Nat} {g : Nat → Nat} {N : Nat} {mn : Int32} {M : Nat → Nat → Int32} {i : Nat}
theorem cu_sm_o : (o, .inr (3, [.ref r, .int mn])) ∈ cu_sm C o r g N mn M := List.mem_cons_self
theorem cu_sm_r : (r, .inl (C 2, N, .inr (.inr (.inr (.inr (fun i => some (g i))))))) ∈ cu_sm C o r g N mn M := List.mem_cons_of_mem _ List.mem_cons_self
theorem cu_sm_sp {X X' : Nat → Int32} {M' : Nat → Nat → Int32} (h : i < N) (hX : M i = X) (hM : M' = va_up M i X') : cu_sp (cu_sm C o r g N mn M) (cu_wl (g i) X) (cu_sm C o r g N mn M') (cu_wl (g i) X') := by
  subst hM hX
  have h1 : cu_sp (cu_lst N (fun i => (g i, cu_el (M i)))) (cu_wl (g i) (M i)) (cu_lst N (fun j => (g j, cu_el (va_up M i X' j)))) (cu_wl (g i) X') :=
    cu_lst_sp h rfl (by show (g i, cu_el (va_up M i X' i)) = _; rw [va_up_self]) (fun j hj => by show (g j, cu_el (va_up M i X' j)) = _; rw [va_up_ne _ _ hj])
  exact cu_sp.trans (cu_sp.suf (X := [(o, .inr (3, [.ref r, .int mn])), (r, .inl (C 2, N, .inr (.inr (.inr (.inr (fun i => some (g i)))))))]) h1.fst) h1
theorem cu_sm_rd {X : Nat → Int32} (h : i < N) (hX : M i = X) : cu_sp (cu_sm C o r g N mn M) (cu_wl (g i) X) (cu_sm C o r g N mn M) (cu_wl (g i) X) := by
  subst hX
  exact cu_sp.rdm (List.mem_cons_of_mem _ (List.mem_cons_of_mem _ (cu_lst_mem (f := fun i => (g i, cu_el (M i))) h)))
theorem cu_sm_M {M' : Nat → Nat → Int32} (h : ∀ i, i < N → M i = M' i) : cu_sm C o r g N mn M = cu_sm C o r g N mn M' := by
  unfold cu_sm
  rw [cu_lst_ext (fun i hi => by show (g i, cu_el (M i)) = (g i, cu_el (M' i)); rw [h i hi])]
theorem cu_sm_fst {M' : Nat → Nat → Int32} {mn' : Int32} : (cu_sm C o r g N mn' M').map Prod.fst = (cu_sm C o r g N mn M).map Prod.fst := by
  simp [cu_sm, cu_lst]
end CSM
theorem cu_perm {D : va_G} {A : Nat → Prop} {W0 W1 : va_W} {H : Heap} (h : List.Perm W1 W0) (hP : va_P D vwCl W0 H) (hD : va_D A W0) : va_P D vwCl W1 H ∧ va_D A W1 := by
  constructor
  · intro k q hq
    obtain ⟨j, hj⟩ := List.getElem?_of_mem (h.mem_iff.mp (List.mem_of_getElem? hq))
    exact hP j q hj
  · rw [cu_Diff] at hD ⊢
    exact ⟨(h.map Prod.fst).nodup_iff.mpr hD.1, fun q hq => hD.2 q (h.mem_iff.mp hq)⟩
/-- fewer cells -/
theorem cu_less {D : va_G} {A : Nat → Prop} {W0 W1 : va_W} {H : Heap} (h : List.Sublist W1 W0) (hP : va_P D vwCl W0 H) (hD : va_D A W0) : va_P D vwCl W1 H ∧ va_D A W1 := by
  constructor
  · intro k q hq
    obtain ⟨j, hj⟩ := List.getElem?_of_mem (h.subset (List.mem_of_getElem? hq))
    exact hP j q hj
  · rw [cu_Diff] at hD ⊢
    exact ⟨(h.map Prod.fst).nodup hD.1, fun q hq => hD.2 q (h.subset hq)⟩
/-! methods with more than a world: what else they ask (Ex), what they hand out (a state u of theirs) -/
abbrev cu_Ex : Type := (Nat → Prop) → Nat → State → Prop
def cu_xN : cu_Ex := fun _ _ _ => True
def cu_xT : cu_Ex := fun A _ U => cu_T A U U.heap
def cu_xS (b L : Nat) (xs : Nat → Int32) : cu_Ex := fun A sz U => cu_T A U U.heap ∧ va_X b L xs U U.heap ∧ b < sz ∧ ¬ A b
def cu_bl (Ex : cu_Ex) : Prop := ∀ (A : Nat → Prop) (sz : Nat) (U : State) (g : JFrame) (mk : MethodId) (a : Array Value), Ex A sz U → Ex A sz (U.calling g mk a)
theorem cu_bl_N : cu_bl cu_xN := fun _ _ _ _ _ _ _ => trivial
theorem cu_bl_T : cu_bl cu_xT := by
  intro A sz U g mk a h
  have ha : U.vm.Alike (U.calling g mk a).vm := Vm.Alike.refl U.vm
  exact ⟨vx_Zq.moved ha h.1, vx_Zq.moved ha h.2⟩
theorem cu_bl_S {b L : Nat} {xs : Nat → Int32} : cu_bl (cu_xS b L xs) := by
  intro A sz U g mk a h
  have ha : U.vm.Alike (U.calling g mk a).vm := Vm.Alike.refl U.vm
  exact ⟨cu_bl_T A sz U g mk a h.1, h.2.1.moved ha, h.2.2⟩
def cu_Pr (D : va_G) (C : Nat → ClassId) (w : va_W) (Ex : cu_Ex) (av : List Value) (sz : Nat) : Array Value → State → Prop := va_Pc av (fun U => cu_B D C w sz U ∧ Ex (va_A w sz) sz U)
theorem cu_blindG {D : va_G} {C : Nat → ClassId} {w : va_W} {Ex : cu_Ex} {av : List Value} {sz : Nat} (hx : cu_bl Ex) : FrameBlind (cu_Pr D C w Ex av sz) := by
  intro a U g mk q
  exact ⟨q.1, (cu_blind (av := av) a U g mk ⟨q.1, q.2.1⟩).2, hx _ _ U g mk a q.2.2⟩
def cu_GI (l : Launch) (D : va_G) (C : Nat → ClassId) (y : MethodName) (ws : List Cond) (rm : Room) (av : List Value) (w : va_W) (Ex : cu_Ex) {S : Type} (post : Int32 → S → Prop) (Wf : S → va_W) (mc ms : Nat) : Prop :=
  ∀ sz : Nat, Met l y ws rm (cu_Pr D C w Ex av sz) (va_Qi post (fun u t => va_P D vwCl (Wf u) t.heap ∧ va_D (va_A w sz) (Wf u)) (va_A w sz)) mc ms (va_A w sz)
def cu_GR (l : Launch) (D : va_G) (C : Nat → ClassId) (y : MethodName) (ws : List Cond) (rm : Room) (av : List Value) (w : va_W) (Ex : cu_Ex) {S : Type} (post : S → Prop) (Wf : S → Nat → va_W) (mc ms : Nat) : Prop :=
  ∀ sz : Nat, Met l y ws rm (cu_Pr D C w Ex av sz) (va_Qr post (fun u a t => va_P D vwCl (Wf u a) t.heap ∧ va_D (va_A w sz) (Wf u a)) (va_A w sz)) mc ms (va_A w sz)
def cu_GD (l : Launch) (D : va_G) (C : Nat → ClassId) (y : MethodName) (ws : List Cond) (rm : Room) (av : List Value) (w : va_W) (Ex : cu_Ex) {S : Type} (post : Int32 → S → Prop) (Wf : S → va_W) (mc ms : Nat) : Prop :=
  ∀ sz : Nat, MetD lw_cs l y ws rm (cu_Pr D C w Ex av sz) (va_Qi post (fun u t => va_P D vwCl (Wf u) t.heap ∧ va_D (va_A w sz) (Wf u)) (va_A w sz)) mc ms (va_A w sz)
section CUG
variable {l : Launch} {D : va_G} {C : Nat → ClassId} {y : MethodName} {ws ws' : List Cond} {rm : Room} {av : List Value} {w : va_W} {Ex : cu_Ex} {S : Type} {mc ms maxL : Nat} {cc : ByteArray} {own : String}
set_option maxHeartbeats 1000000 in
theorem cu_openGI {post : Int32 → S → Prop} {Wf : S → va_W} {ty : FieldType} (hy : plainName y.cls = true) (ho : y.cls = own) (hw : ws = Cond.code y cc maxL (some ty) :: ws') (hz : (lg_sl av).length ≤ maxL)
    (body : ∀ (p : Program) (e : Env) (s : State) (m : MethodId) (args : Array Value) (below : List Frame) (meth : Method) (c : Code) (A : Nat → Prop) (Z : State → Prop) (H0 : Heap) (ls : Array Slot), s.heap = H0 → p.tables.exec = Jvm.exec → c.code = cc → c.maxLocals = maxL → (∀ w ∈ ws, w.before args s = true) → s.vm.findClass own = some m.cls → meth.name = y.name → cu_G D C s → va_P D vwCl w H0 → va_D A w → va_S A H0 H0 [] → (∀ q : Nat, H0.size ≤ q → A q) → lv_has ls maxL (lv_args 0 av) → Ex A H0.size s →
      (∀ (u : S) (v : Int32) (H : Heap) (locs : List Loc) (pc : Nat) (ls : Array Slot), narrow ty (.int v) = .int v → post v u → va_P D vwCl (Wf u) H → va_D A (Wf u) → va_S A H0 H locs → decode cc pc = .ok (.ireturn, 1) → W p l e rm s m args below meth c H locs mc ms Z (F0 m pc ls [.int v])) →
      W p l e rm s m args below meth c H0 [] 0 0 Z (F0 m 0 ls [])) : cu_GI l D C y ws rm av w Ex post Wf mc ms := by
  intro sz
  refine Met.ofW (cc := cc) (maxL := maxL) (ret := some ty) hy hw ?_
  intro p e s m args below meth c s₁ B hml hv
  obtain ⟨rfl, ⟨hsz, hP, hD0, hG⟩, hE⟩ := hv
  subst hsz
  have hl := lv_entry av (n := maxL) hz
  rw [lg_entry_eq]
  refine body p e s m _ below meth c (va_A w s.heap.size) _ _ _ rfl B.exec B.bytes hml (atoms_spec (ws := ws) B.pre) (by rw [← ho]; exact findClass_of_methodNamed B.named) (name_of_methodNamed B.named B.method).1 hG hP hD0.self va_S.rf (fun q h => Or.inr h) hl hE ?_
  intro u v H locs pc ls hn hv hP hD hS hd
  exact W.zret (v := v) B.exec B.bytes B.returns hn (fun t ht hW => ⟨⟨v, u, rfl, hv, by show va_P D vwCl (Wf u) t.heap; rw [ht]; exact hP, hD⟩, hS.F ht⟩) hS.2.2 hd
set_option maxHeartbeats 1000000 in
theorem cu_openGR {post : S → Prop} {Wf : S → Nat → va_W} {ty : FieldType} (hy : plainName y.cls = true) (ho : y.cls = own) (hw : ws = Cond.code y cc maxL (some ty) :: ws') (hr : (∃ n, ty = .object n) ∨ ∃ t, ty = .array t) (hz : (lg_sl av).length ≤ maxL)
    (body : ∀ (p : Program) (e : Env) (s : State) (m : MethodId) (args : Array Value) (below : List Frame) (meth : Method) (c : Code) (A : Nat → Prop) (Z : State → Prop) (H0 : Heap) (ls : Array Slot), s.heap = H0 → p.tables.exec = Jvm.exec → c.code = cc → c.maxLocals = maxL → (∀ w ∈ ws, w.before args s = true) → s.vm.findClass own = some m.cls → meth.name = y.name → cu_G D C s → va_P D vwCl w H0 → va_D A w → va_S A H0 H0 [] → (∀ q : Nat, H0.size ≤ q → A q) → lv_has ls maxL (lv_args 0 av) → Ex A H0.size s →
      (∀ (u : S) (v : Nat) (H : Heap) (locs : List Loc) (pc : Nat) (ls : Array Slot), post u → va_P D vwCl (Wf u v) H → va_D A (Wf u v) → va_S A H0 H locs → decode cc pc = .ok (.areturn, 1) → W p l e rm s m args below meth c H locs mc ms Z (F0 m pc ls [.ref v])) →
      W p l e rm s m args below meth c H0 [] 0 0 Z (F0 m 0 ls [])) : cu_GR l D C y ws rm av w Ex post Wf mc ms := by
  intro sz
  refine Met.ofW (cc := cc) (maxL := maxL) (ret := some ty) hy hw ?_
  intro p e s m args below meth c s₁ B hml hv
  obtain ⟨rfl, ⟨hsz, hP, hD0, hG⟩, hE⟩ := hv
  subst hsz
  have hl := lv_entry av (n := maxL) hz
  rw [lg_entry_eq]
  refine body p e s m _ below meth c (va_A w s.heap.size) _ _ _ rfl B.exec B.bytes hml (atoms_spec (ws := ws) B.pre) (by rw [← ho]; exact findClass_of_methodNamed B.named) (name_of_methodNamed B.named B.method).1 hG hP hD0.self va_S.rf (fun q h => Or.inr h) hl hE ?_
  intro u v H locs pc ls hu hP hD hS hd
  exact W.aret (v := .ref v) B.exec B.bytes B.returns hr (Or.inr ⟨_, rfl⟩) (fun t ht hW => ⟨⟨u, v, rfl, hu, by show va_P D vwCl (Wf u v) t.heap; rw [ht]; exact hP, hD⟩, hS.F ht⟩) hS.2.2 hd
set_option maxHeartbeats 1000000 in
theorem cu_openGD {post : Int32 → S → Prop} {Wf : S → va_W} {ty : FieldType} (hy : plainName y.cls = true) (ho : y.cls = own) (hw : ws = Cond.code y cc maxL (some ty) :: ws') (hz : (lg_sl av).length ≤ maxL)
    (body : ∀ (p : Program) (e : Env) (s : State) (m : MethodId) (args : Array Value) (below : List Frame) (meth : Method) (c : Code) (A : Nat → Prop) (Z : State → Prop) (H0 : Heap) (ls : Array Slot), s.heap = H0 → p.tables.exec = Jvm.exec → c.code = cc → c.maxLocals = maxL → (∀ w ∈ ws, w.before args s = true) → s.vm.findClass own = some m.cls → meth.name = y.name → cu_G D C s → va_P D vwCl w H0 → va_D A w → va_S A H0 H0 [] → (∀ q : Nat, H0.size ≤ q → A q) → lv_has ls maxL (lv_args 0 av) → Ex A H0.size s →
      (∀ (d1 : Drawn) (u : S) (v : Int32) (H : Heap) (locs : List Loc) (pc : Nat) (ls : Array Slot), s.drawn.sameBut d1 lw_cs → narrow ty (.int v) = .int v → post v u → va_P D vwCl (Wf u) H → va_D A (Wf u) → va_S A H0 H locs → decode cc pc = .ok (.ireturn, 1) → W p l e rm (s.setDrawn d1) m args below meth c H locs mc ms Z (F0 m pc ls [.int v])) →
      W p l e rm s m args below meth c H0 [] 0 0 Z (F0 m 0 ls [])) : cu_GD l D C y ws rm av w Ex post Wf mc ms := by
  intro sz
  refine MetD.ofW (cc := cc) (maxL := maxL) (ret := some ty) hy hw ?_
  intro p e s m args below meth c s₁ B hml hv hd0
  obtain ⟨rfl, ⟨hsz, hP, hD0, hG⟩, hE⟩ := hv
  subst hsz
  have hl := lv_entry av (n := maxL) hz
  rw [lg_entry_eq]
  refine body p e s m _ below meth c (va_A w s.heap.size) _ _ _ rfl B.exec B.bytes hml (atoms_spec (ws := ws) B.pre) (by rw [← ho]; exact findClass_of_methodNamed B.named) (name_of_methodNamed B.named B.method).1 hG hP hD0.self va_S.rf (fun q h => Or.inr h) hl hE ?_
  intro d1 u v H locs pc ls hd1 hn hv hP hD hS hd
  have hlocks := B.notSynchronized
  exact W.endD hd1 (W.zret (v := v) B.exec B.bytes B.returns hn (fun t ht hW => ⟨⟨v, u, rfl, hv, by show va_P D vwCl (Wf u) t.heap; rw [ht]; exact hP, hD⟩, hS.F ht⟩) hS.2.2 hd)
end CUG
section CUGC
variable {p : Program} {l : Launch} {e : Env} {R : Room} {s : State} {m : MethodId} {args : Array Value} {below : List Frame} {meth : Method} {c : Code} {H : Heap} {locs : List Loc} {cells slots : Nat} {Q : State → Prop}
variable {pc : Nat} {ls : Array Slot} {rest st0 : List Value} {a : Array Value} {A : Nat → Prop} {H0 : Heap} {mc ms : Nat} {D : va_G} {C : Nat → ClassId} {W0 w W1 w' : va_W} {b : Nat} {As : List Value} {Ex : cu_Ex} {S : Type}
/-- what else is asked, at a call -/
def cu_at (Ex : cu_Ex) (w : va_W) (s : State) (H : Heap) : Prop := ∀ U : State, U.heap = H → s.WarmedH U.vm → Ex (va_A w H.size) H.size U
theorem cu_at_N : cu_at cu_xN w s H := fun _ _ _ => trivial
theorem cu_at_T (sp : cu_sp W0 w W1 w') (hD : va_D A W0) (hT : cu_T A s H0) (hS : va_S A H0 H locs) (hA : ∀ q : Nat, H0.size ≤ q → A q) : cu_at cu_xT w s H := fun _ hU hW => cu_T_in sp hD hT hS hA hU hW
theorem cu_at_S {sb L : Nat} {xs : Nat → Int32} (sp : cu_sp W0 w W1 w') (hD : va_D A W0) (hT : cu_T A s H0) (hX : va_X sb L xs s H0) (hb1 : sb < H0.size) (hb2 : ¬ A sb) (hS : va_S A H0 H locs) (hA : ∀ q : Nat, H0.size ≤ q → A q) : cu_at (cu_xS sb L xs) w s H := fun U hU hW =>
  ⟨cu_T_in sp hD hT hS hA hU hW, by rw [hU]; exact (hX.kept (hS.2.1 sb hb1 hb2)).moved hW.alike, Nat.lt_of_lt_of_le hb1 hS.1, fun z => hb2 (sp.F hD hS hA sb z)⟩
theorem cu_preGV {ci : Nat} {fs : List Value} {q : vw_C} (sp : cu_sp W0 w W1 w') (hG : cu_G D C s) (hP : va_P D vwCl W0 H) (hD : va_D A W0) (hx : cu_bl Ex) (hE : cu_at Ex w s H) (he : (b, .inr (ci, fs)) ∈ w) (hc : vwCl[ci]? = some q) : PreV s H q.1 b (cu_Pr D C w Ex (.ref b :: As) H.size) As := by
  obtain ⟨k, hk⟩ := List.getElem?_of_mem he
  exact ⟨cu_blindG hx, va_recv hG.1 (sp.P hP) hc hk, fun U hU hW => ⟨rfl, ⟨by rw [hU], by rw [hU]; exact sp.P hP, (sp.D hD).weaken (fun _ _ _ _ => trivial), hG.warm hW⟩, hE U hU hW⟩⟩
theorem cu_preGS (sp : cu_sp W0 w W1 w') (hG : cu_G D C s) (hP : va_P D vwCl W0 H) (hD : va_D A W0) (hx : cu_bl Ex) (hE : cu_at Ex w s H) : PreS s H (cu_Pr D C w Ex As H.size) As :=
  ⟨cu_blindG hx, fun U hU hW => ⟨rfl, ⟨by rw [hU], by rw [hU]; exact sp.P hP, (sp.D hD).weaken (fun _ _ _ _ => trivial), hG.warm hW⟩, hE U hU hW⟩⟩
theorem cu_callGI {post : Int32 → S → Prop} {Wf : S → va_W} (hr : va_Run p l e R s m args below meth c H locs cells slots mc ms (F0 m pc ls st0) rest (va_Qi post (fun u t => va_P D vwCl (Wf u) t.heap ∧ va_D (va_A w H.size) (Wf u)) (va_A w H.size) a) (va_A w H.size)) (hF : ∀ q, va_A w H.size q → A q) (hS : va_S A H0 H locs)
    (kk : ∀ (v : Int32) (u : S) (H1 : Heap) (locs1 : List Loc), post v u → va_P D vwCl (Wf u) H1 → va_D (va_A w H.size) (Wf u) → H.size ≤ H1.size → (∀ q : Nat, q < H.size → ¬ va_A w H.size q → H1[q]? = H[q]?) → va_S A H0 H1 locs1 → W p l e R s m args below meth c H1 locs1 (cells + mc) (slots + ms) Q (F0 m (pc + 3) ls (.int v :: rest))) : W p l e R s m args below meth c H locs cells slots Q (F0 m pc ls st0) := by
  refine va_calli hr hS (fun q _ h => hF q h) hF (fun v u t H1 locs1 ht _ hu hB hz hk hS1 => ?_)
  rw [ht] at hB
  exact kk v u H1 locs1 hu hB.1 hB.2 hz hk hS1
theorem cu_callGR {post : S → Prop} {Wf : S → Nat → va_W} (hr : va_Run p l e R s m args below meth c H locs cells slots mc ms (F0 m pc ls st0) rest (va_Qr post (fun u a t => va_P D vwCl (Wf u a) t.heap ∧ va_D (va_A w H.size) (Wf u a)) (va_A w H.size) a) (va_A w H.size)) (hF : ∀ q, va_A w H.size q → A q) (hS : va_S A H0 H locs)
    (kk : ∀ (u : S) (v : Nat) (H1 : Heap) (locs1 : List Loc), post u → va_P D vwCl (Wf u v) H1 → va_D (va_A w H.size) (Wf u v) → H.size ≤ H1.size → (∀ q : Nat, q < H.size → ¬ va_A w H.size q → H1[q]? = H[q]?) → va_S A H0 H1 locs1 → W p l e R s m args below meth c H1 locs1 (cells + mc) (slots + ms) Q (F0 m (pc + 3) ls (.ref v :: rest))) : W p l e R s m args below meth c H locs cells slots Q (F0 m pc ls st0) := by
  refine va_callr hr hS (fun q _ h => hF q h) hF (fun u v t H1 locs1 ht _ hu hB hz hk hS1 => ?_)
  rw [ht] at hB
  exact kk u v H1 locs1 hu hB.1 hB.2 hz hk hS1
theorem cu_callGD {post : Int32 → S → Prop} {Wf : S → va_W} {d0 : Drawn} (hd0 : s.drawn.sameBut d0 lw_cs) (hr : va_RunD lw_cs p l e R (s.setDrawn d0) m args below meth c H locs cells slots mc ms (F0 m pc ls st0) rest (va_Qi post (fun u t => va_P D vwCl (Wf u) t.heap ∧ va_D (va_A w H.size) (Wf u)) (va_A w H.size) a) (va_A w H.size)) (hF : ∀ q, va_A w H.size q → A q) (hS : va_S A H0 H locs)
    (kk : ∀ (v : Int32) (u : S) (H1 : Heap) (locs1 : List Loc) (d1 : Drawn), s.drawn.sameBut d1 lw_cs → post v u → va_P D vwCl (Wf u) H1 → va_D (va_A w H.size) (Wf u) → va_S A H0 H1 locs1 → W p l e R (s.setDrawn d1) m args below meth c H1 locs1 (cells + mc) (slots + ms) Q (F0 m (pc + 3) ls (.int v :: rest))) : W p l e R (s.setDrawn d0) m args below meth c H locs cells slots Q (F0 m pc ls st0) := by
  refine va_calliD hd0 hr hS (fun q _ h => hF q h) hF (fun v u t H1 locs1 ht _ hu hB hz hk hS1 d1 hd1 => ?_)
  rw [ht] at hB
  exact kk v u H1 locs1 d1 hd1 hu hB.1 hB.2 hS1
end CUGC
/-- a new world beside the rest -/
theorem cu_joinR {D : va_G} {A : Nat → Prop} {X w W1 : va_W} {H H1 : Heap} (hP : va_P D vwCl (X ++ w) H) (hD : va_D A (X ++ w)) (hP1 : va_P D vwCl W1 H1) (hD1 : va_D (va_A w H.size) W1) (hk : ∀ q : Nat, q < H.size → ¬ va_A w H.size q → H1[q]? = H[q]?) (hF : ∀ q, va_A w H.size q → A q) : va_P D vwCl (X ++ W1) H1 ∧ va_D A (X ++ W1) := by
  have hX : ∀ q ∈ X, q.1 < H.size ∧ ¬ va_A w H.size q.1 := by
    intro q hq
    obtain ⟨i, hi⟩ := List.getElem?_of_mem (List.mem_append_left w hq)
    have hl := (hP i q hi).lt
    refine ⟨hl, fun z => ?_⟩
    rcases z with ⟨j, e, hj⟩ | z
    · have hn := (cu_Diff.mp hD).1
      rw [List.map_append] at hn
      exact (List.nodup_append.mp hn).2.2 q.1 (List.mem_map_of_mem hq) q.1 (List.mem_map.mpr ⟨_, List.mem_of_getElem? hj, rfl⟩) rfl
    · omega
  have h1 : va_P D vwCl (W1 ++ X) H1 ∧ va_D A (W1 ++ X) := by
    constructor
    · refine hP1.app (fun k q hq => ?_)
      have hm := List.mem_of_getElem? hq
      obtain ⟨i, hi⟩ := List.getElem?_of_mem (List.mem_append_left w hm)
      exact (hP i q hi).kept (hk q.1 (hX q hm).1 (hX q hm).2)
    · rw [cu_Diff] at hD hD1 ⊢
      refine ⟨?_, fun q hq => ?_⟩
      · rw [List.map_append, List.nodup_append]
        have hn := hD.1
        rw [List.map_append] at hn
        refine ⟨hD1.1, (List.nodup_append.mp hn).1, fun a ha b hb e => ?_⟩
        obtain ⟨x, hx, ex⟩ := List.mem_map.mp ha
        obtain ⟨y, hy, ey⟩ := List.mem_map.mp hb
        have h1 := hD1.2 x hx
        rw [ex, e, ← ey] at h1
        exact (hX y hy).2 h1
      · rcases List.mem_append.mp hq with h | h
        · exact hF _ (hD1.2 q h)
        · exact hD.2 q (List.mem_append_left w h)
  exact cu_perm List.perm_append_comm h1.1 h1.2
theorem cu_sp.inR {X S S' w w' : va_W} (h : cu_sp S w S' w') : cu_sp (X ++ S) w (X ++ S') w' := cu_sp.trans (cu_sp.suf h.fst) h
theorem cu_sp.inL {Y S S' w w' : va_W} (h : cu_sp S w S' w') : cu_sp (S ++ Y) w (S' ++ Y) w' := cu_sp.trans (cu_sp.pre h.fst) h
theorem cu_sm_m {C : Nat → ClassId} {o r : Nat} {g : Nat → Nat} {N : Nat} {mn mn' : Int32} {M : Nat → Nat → Int32} : cu_sp (cu_sm C o r g N mn M) [(o, .inr (3, [.ref r, .int mn]))] (cu_sm C o r g N mn' M) [(o, .inr (3, [.ref r, .int mn']))] :=
  cu_sp.trans (cu_sp.pre (w := [(o, .inr (3, [.ref r, .int mn]))]) (w' := [(o, .inr (3, [.ref r, .int mn']))]) (Y := (r, .inl (C 2, N, .inr (.inr (.inr (.inr (fun i => some (g i))))))) :: cu_lst N (fun i => (g i, cu_el (M i)))) rfl) (cu_sp.all rfl)
theorem cu_cell_ext {cA : ClassId} {n : Nat} {f g : Nat → Int32} (h : ∀ j, j < n → f j = g j) : vp_cell cA (n, .inl f) = vp_cell cA (n, .inl g) := by
  rw [vp_cell_i, vp_cell_i]
  unfold arrV
  congr 1
  apply Array.ext
  · simp
  · intro i h1 h2
    simp at h1
    simp [h i h1]
theorem cu_cell_extq {cA : ClassId} {n : Nat} {f g : Nat → Option Nat} (h : ∀ j, j < n → f j = g j) : vp_cell cA (n, .inr (.inr (.inr (.inr f)))) = vp_cell cA (n, .inr (.inr (.inr (.inr g)))) := by
  rw [vp_cell_q, vp_cell_q]
  unfold arrV
  congr 1
  apply Array.ext
  · simp
  · intro i h1 h2
    simp at h1
    simp [h i h1]
/-- an array that holds the same at its places is the same -/
theorem cu_P_ext {D : va_G} {W0 W1 : va_W} {H : Heap} {a : Nat} {x y : ClassId × vp_A} (sp : cu_sp W0 [(a, .inl x)] W1 [(a, .inl y)]) (hD : (W0.map Prod.fst).Nodup) (hP : va_P D vwCl W0 H) (e : vp_cell x.1 x.2 = vp_cell y.1 y.2) : va_P D vwCl W1 H := by
  intro k q hq
  rcases sp.2.2.2 hD q (List.mem_of_getElem? hq) with h1 | ⟨h1, -⟩
  · rw [List.mem_singleton.mp h1]
    obtain ⟨j, hj⟩ := List.getElem?_of_mem (sp.1 _ (List.mem_singleton_self _))
    have h2 : H[a]? = some (vp_cell x.1 x.2) := hP j _ hj
    show H[a]? = some (vp_cell y.1 y.2)
    rw [h2, e]
  · obtain ⟨j, hj⟩ := List.getElem?_of_mem h1
    exact hP j q hj
theorem cu_lst_s {N : Nat} {f : Nat → Nat × va_E} : cu_lst (N + 1) f = cu_lst N f ++ [f N] := by simp [cu_lst, List.range_succ]
theorem cu_lst_0 {f : Nat → Nat × va_E} : cu_lst 0 f = [] := rfl
