/-! arrays of arrays of numbers, and what the model keeps of itself -/
theorem cu_cell_ext (cA : ClassId) {n : Nat} {f g : Nat → Int32} (h : ∀ j, j < n → f j = g j) : vp_cell cA (n, .inl f) = vp_cell cA (n, .inl g) := by
  rw [vp_cell_i, vp_cell_i]
  unfold arrV
  congr 1
  apply Array.ext
  · simp
  · intro i h1 h2
    simp at h1
    simp [h i h1]
/-- what is kept: a row of two rows -/
abbrev cu_kx (C : Nat → ClassId) (u : Nat × Nat × Nat) (m : Int32) (K : Nat → Nat → Int32) : va_W :=
  [(u.1, .inl (C 3, 2, .inr (.inr (.inr (.inr (va_up (va_up (fun _ => none) 0 (some u.2.1)) 1 (some u.2.2))))))), (u.2.1, .inl (C 0, 140, .inl (cu_sg K))), (u.2.2, .inl (C 0, 1, .inl (fun _ => m)))]
section CUA
variable {p : Program} {l : Launch} {e : Env} {R : Room} {s : State} {m : MethodId} {args : Array Value} {below : List Frame} {meth : Method} {c : Code} {H : Heap} {locs : List Loc} {cells slots : Nat} {Q : State → Prop}
variable {cc : ByteArray} {pc : Nat} {ls : Array Slot} {rest : List Value} {D : va_G} {C : Nat → ClassId} {A : Nat → Prop} {a : Nat} {ws : va_W} {H0 : Heap}
theorem cu_newA (hexec : p.tables.exec = Jvm.exec) (hb : c.code = cc) {own : String} {index : Nat} (hown : s.vm.findClass own = some m.cls) (hclink : (Cond.classLink own index "[I").before args s = true) (hAO : cu_AO s) (hK : va_K D vwCl (cu_tys C) s) (hP : va_P D vwCl ws H) (hD : va_D A ws) (hS : va_S A H0 H locs) (hA : ∀ q : Nat, H0.size ≤ q → A q)
    (hcells : cells + 1 ≤ R.cells) (hslots : slots + 2 ≤ R.slots) (hdg : decode cc pc = .ok (.anewarray index, 3))
    (kk : ∀ (q : Nat) (H1 : Heap), va_P D vwCl (ws ++ [(q, .inl (C 3, 2, .inr (.inr (.inr (.inr (fun _ => none))))))]) H1 → va_D A (ws ++ [(q, .inl (C 3, 2, .inr (.inr (.inr (.inr (fun _ => none))))))]) → va_S A H0 H1 locs → (∃ kA : Class, s.vm.classes[C 3]? = some kA ∧ kA.kind = .array (C 0) (.array .int)) →
      W p l e R s m args below meth c H1 locs (cells + 1) (slots + 2) Q (F0 m (pc + 3) ls (.ref q :: rest))) : W p l e R s m args below meth c H locs cells slots Q (F0 m pc ls (.int 2 :: rest)) := by
  refine W.anewA (t := .int) hexec hb hown hclink hAO.use rfl hdg rfl (by decide) (Nat.le_of_ble_eq_true rfl) hcells hslots fun cA kA comp f1 f2 f3 f4 => ?_
  have h3 : s.vm.findClass ("[" ++ (FieldType.array .int).toString) = some (C 3) := (hK.2 3 (C 3, .array .int) rfl).2
  cases Option.some.inj (f1.symm.trans h3)
  have h4 : s.vm.findClass "[I" = some (C 0) := (hK.2 0 (C 0, .int) rfl).2
  have f4' : s.vm.findClass "[I" = some comp := f4
  cases Option.some.inj (f4'.symm.trans h4)
  have hN : (2 : Int32).toNatClampNeg = 2 := rfl
  rw [hN]
  generalize hH1 : H.push ({ cls := C 3, slots := Array.replicate 2 .null, vm := .none } : Cell) = H1
  have z1 : H1.size = H.size + 1 := by rw [← hH1, Array.size_push]
  have e1 : H1[H.size]? = some (arrV (C 3) 2 (fun _ => .null)) := by rw [← hH1, Array.getElem?_push_size, ← arrV_new]
  have o1 : ∀ q : Nat, q < H.size → H1[q]? = H[q]? := fun q hq => by rw [← hH1, Array.getElem?_push, if_neg (Nat.ne_of_lt hq)]
  have hk : ∀ (k : Nat) (x : Nat × va_E), ws[k]? = some x → H1[x.1]? = H[x.1]? := fun k x hx => o1 x.1 ((hP k x hx).lt)
  refine kk H.size H1 ((hP.kept hk).app (fun k x hx => ?_)) (hD.push hP rfl (hA _ hS.1)) ⟨Nat.le_trans hS.1 (by omega), fun x h1 h2 => (o1 x (Nat.lt_of_lt_of_le h1 hS.1)).trans (hS.2.1 x h1 h2), hS.2.2⟩ ⟨kA, f2, f3⟩
  have hz : k < 1 := (List.getElem?_eq_some_iff.mp hx).1
  rw [show k = 0 by omega] at hx
  cases hx
  show H1[H.size]? = some (vp_cell _ _)
  rw [vp_cell_q]
  exact e1
theorem cu_astA (hexec : p.tables.exec = Jvm.exec) (hb : c.code = cc) (hK : va_K D vwCl (cu_tys C) s) (hP : va_P D vwCl ws H) (hD : va_D A ws) (hS : va_S A H0 H locs) (hcc : ∃ kA : Class, s.vm.classes[C 3]? = some kA ∧ kA.kind = .array (C 0) (.array .int)) (q0 qk : Nat) {n v : Nat} {x : Nat × (Nat → Int32)} {f : Nat → Option Nat} (ha : ws[q0]? = some (a, .inl (C 3, n, .inr (.inr (.inr (.inr f)))))) (hv : ws[qk]? = some (v, .inl (C 0, x.1, .inl x.2))) {i : Int32} (hin : vp_in i n) (hdg : decode cc pc = .ok (.aastore, 1))
    (kk : ∀ (H1 : Heap) (locs1 : List Loc), va_P D vwCl (ws.set q0 (a, .inl (C 3, n, .inr (.inr (.inr (.inr (va_up f i.toNatClampNeg (some v)))))))) H1 → va_D A (ws.set q0 (a, .inl (C 3, n, .inr (.inr (.inr (.inr (va_up f i.toNatClampNeg (some v)))))))) → va_S A H0 H1 locs1 → W p l e R s m args below meth c H1 locs1 cells slots Q (F0 m (pc + 1) ls rest)) : W p l e R s m args below meth c H locs cells slots Q (F0 m pc ls (.ref v :: .int i :: .ref a :: rest)) := by
  have hlt : i.toNatClampNeg < n := Nat.not_le.mp fun q => hin (Or.inr q)
  have h0 : ¬ i < 0 := fun q => hin (Or.inl q)
  obtain ⟨kA, hkA', hkind⟩ := hcc
  obtain ⟨-, kI, hkI, compI, hkindI⟩ := (hK.2 0 (C 0, .int) rfl).1 0 (fun _ => .null)
  have hkI' : s.vm.classes[C 0]? = some kI := hkI
  refine W.aast (cv := vp_cell (C 0) (x.1, .inl x.2)) hexec hb (hP q0 _ ha) (fun q h => by cases h) (fun h => by cases h) hkA' hkind rfl hkI' ⟨h0, by show _ < (arrV _ _ _).slots.size; rw [arrV_size]; exact hlt⟩ (hP qk _ hv) (fun q h => by cases h) hkI' (va_asg _ _) rfl rfl hdg fun H1 e z oq => ?_
  refine kk H1 _ (hP.set hD ha ?_ oq) (hD.set ha) (hS.put z oq (hD.2 q0 _ ha))
  show H1[a]? = some (vp_cell _ _)
  rw [e]
  rw [vp_cell_q, vp_cell_q, arrV_store]
  congr 2
  funext q
  by_cases hq : q = i.toNatClampNeg
  · subst hq
    simp [updV, va_up, va_rf]
  · simp [updV, va_up, hq]
theorem cu_aaldA (hexec : p.tables.exec = Jvm.exec) (hb : c.code = cc) (hK : va_K D vwCl (cu_tys C) s) (hP : va_P D vwCl ws H) (q0 : Nat) {n : Nat} {f : Nat → Option Nat} (ha : ws[q0]? = some (a, .inl (C 3, n, .inr (.inr (.inr (.inr f)))))) {i : Int32} (hin : vp_in i n) (hdg : decode cc pc = .ok (.aaload, 1))
    (kk : W p l e R s m args below meth c H locs cells slots Q (F0 m (pc + 1) ls (va_rf (f i.toNatClampNeg) :: rest))) : W p l e R s m args below meth c H locs cells slots Q (F0 m pc ls (.int i :: .ref a :: rest)) := by
  have hlt : i.toNatClampNeg < n := Nat.not_le.mp fun q => hin (Or.inr q)
  exact W.aald (v := va_rf (f i.toNatClampNeg)) (ty := .array .int) hexec hb (hP q0 _ ha) ((hK.2 3 (C 3, .array .int) rfl).1 n (fun j => va_rf (f j))) rfl (fun q => by cases q) (by show ¬ (i < 0 ∨ (arrV _ _ _).slots.size ≤ _); rw [arrV_size]; exact hin) (by show (arrV _ _ _).slots[_]? = _; rw [arrV_read _ _ hlt]) rfl rfl hdg kk
end CUA
/-! a method that hands out a row of rows -/
def cu_R (l : Launch) (D : va_G) (C : Nat → ClassId) (y : MethodName) (ws : List Cond) (rm : Room) (av : List Value) (w : va_W) (Wf : Nat × Nat × Nat → va_W) (mc ms : Nat) : Prop :=
  ∀ sz : Nat, Met l y ws rm (va_Pc av (cu_B D C w sz)) (va_Qr (fun (_ : Nat × Nat) => True) (fun u a t => va_P D vwCl (w ++ Wf (a, u)) t.heap ∧ va_D (va_A w sz) (w ++ Wf (a, u))) (va_A w sz)) mc ms (va_A w sz)
set_option maxHeartbeats 1000000 in
theorem cu_openR {l : Launch} {D : va_G} {C : Nat → ClassId} {y : MethodName} {ws ws' : List Cond} {rm : Room} {av : List Value} {w : va_W} {Wf : Nat × Nat × Nat → va_W} {mc ms maxL : Nat} {cc : ByteArray} {own : String} {ty : FieldType} (hy : plainName y.cls = true) (ho : y.cls = own) (hw : ws = Cond.code y cc maxL (some ty) :: ws') (hr : (∃ n, ty = .object n) ∨ ∃ t, ty = .array t) (hz : (lg_sl av).length ≤ maxL)
    (body : ∀ (p : Program) (e : Env) (s : State) (m : MethodId) (args : Array Value) (below : List Frame) (meth : Method) (c : Code) (A : Nat → Prop) (Z : State → Prop) (H0 : Heap) (ls : Array Slot), s.heap = H0 → p.tables.exec = Jvm.exec → c.code = cc → c.maxLocals = maxL → (∀ w ∈ ws, w.before args s = true) → s.vm.findClass own = some m.cls → meth.name = y.name → cu_G D C s → va_P D vwCl w H0 → va_D A w → va_S A H0 H0 [] → (∀ q : Nat, H0.size ≤ q → A q) → lv_has ls maxL (lv_args 0 av) →
      (∀ (v : Nat) (u : Nat × Nat) (H : Heap) (locs : List Loc) (pc : Nat) (ls : Array Slot), va_P D vwCl (w ++ Wf (v, u)) H → va_D A (w ++ Wf (v, u)) → va_S A H0 H locs → decode cc pc = .ok (.areturn, 1) → W p l e rm s m args below meth c H locs mc ms Z (F0 m pc ls [.ref v])) →
      W p l e rm s m args below meth c H0 [] 0 0 Z (F0 m 0 ls [])) : cu_R l D C y ws rm av w Wf mc ms := by
  intro sz
  refine Met.ofW (cc := cc) (maxL := maxL) (ret := some ty) hy hw ?_
  intro p e s m args below meth c s₁ B hml hv
  obtain ⟨rfl, hsz, hP, hD0, hG⟩ := hv
  subst hsz
  have hl := lv_entry av (n := maxL) hz
  rw [lg_entry_eq]
  refine body p e s m _ below meth c (va_A w s.heap.size) _ _ _ rfl B.exec B.bytes hml (atoms_spec (ws := ws) B.pre) (by rw [← ho]; exact findClass_of_methodNamed B.named) (name_of_methodNamed B.named B.method).1 hG hP hD0.self va_S.rf (fun q h => Or.inr h) hl ?_
  intro v u H locs pc ls hP hD hS hd
  exact W.aret (v := .ref v) B.exec B.bytes B.returns hr (Or.inr ⟨_, rfl⟩) (fun t ht hW => ⟨⟨u, v, rfl, trivial, by show va_P D vwCl (w ++ Wf (v, u)) t.heap; rw [ht]; exact hP, hD⟩, hS.F ht⟩) hS.2.2 hd
theorem cu_callR {p : Program} {l : Launch} {e : Env} {R : Room} {s : State} {m : MethodId} {args : Array Value} {below : List Frame} {meth : Method} {c : Code} {H : Heap} {locs : List Loc} {cells slots : Nat} {Q : State → Prop} {pc : Nat} {ls : Array Slot} {rest st0 : List Value} {a : Array Value} {A : Nat → Prop} {H0 : Heap} {mc ms : Nat} {D : va_G} {w : va_W} {Wf : Nat × Nat × Nat → va_W}
    (hr : va_Run p l e R s m args below meth c H locs cells slots mc ms (F0 m pc ls st0) rest (va_Qr (fun (_ : Nat × Nat) => True) (fun u a t => va_P D vwCl (w ++ Wf (a, u)) t.heap ∧ va_D (va_A w H.size) (w ++ Wf (a, u))) (va_A w H.size) a) (va_A w H.size)) (hD : va_D A w) (hS : va_S A H0 H locs) (hA : ∀ q : Nat, H0.size ≤ q → A q)
    (kk : ∀ (a : Nat) (u : Nat × Nat) (H1 : Heap) (locs1 : List Loc), va_P D vwCl (w ++ Wf (a, u)) H1 → va_D A (w ++ Wf (a, u)) → va_S A H0 H1 locs1 → W p l e R s m args below meth c H1 locs1 (cells + mc) (slots + ms) Q (F0 m (pc + 3) ls (.ref a :: rest))) : W p l e R s m args below meth c H locs cells slots Q (F0 m pc ls st0) := by
  have hF : ∀ q, va_A w H.size q → A q := by
    intro q hq
    rcases hq with ⟨k, e, hk⟩ | hq
    · exact hD.2 k (q, e) hk
    · exact hA q (Nat.le_trans hS.1 hq)
  refine va_callr hr hS (fun q _ h => hF q h) hF (fun u ra t H1 locs1 ht _ _ hB hz hk hS1 => ?_)
  rw [ht] at hB
  exact kk ra u H1 locs1 hB.1 (hB.2.weaken (fun _ _ _ h => hF _ h)) hS1
theorem cu_mw_k {D : va_G} {C : Nat → ClassId} {o r q : Nat} {th n m : Int32} {K K1 : Nat → Nat → Int32} {X : va_W} {H : Heap} (h : va_P D vwCl ([(o, .inr (2, [.int th, .int n, .ref r, .ref q])), (r, .inl (C 0, 140, .inl (va_cpy (cu_sg K1) (cu_sg K) 0 0 140))), (q, .inl (C 0, 1, .inl (fun _ => m)))] ++ X) H) : va_P D vwCl (cu_mw C o r q th n m K1 ++ X) H := by
  intro k z hz
  match k, hz with
  | 0, hz => exact h 0 z hz
  | 1, hz =>
    have h2 := h 1 (r, .inl (C 0, 140, .inl (va_cpy (cu_sg K1) (cu_sg K) 0 0 140))) rfl
    have e : z = (r, .inl (C 0, 140, .inl (cu_sg K1))) := (Option.some.inj hz).symm
    rw [e]
    have h3 : H[r]? = some (vp_cell (C 0) (140, .inl (va_cpy (cu_sg K1) (cu_sg K) 0 0 140))) := h2
    show H[r]? = some (vp_cell (C 0) (140, .inl (cu_sg K1)))
    rw [h3, cu_cell_ext (C 0) (f := va_cpy (cu_sg K1) (cu_sg K) 0 0 140) (g := cu_sg K1) (fun j hj => by simp [va_cpy, hj])]
  | k + 2, hz => exact h (k + 2) z hz
theorem cu_mw_mX {D : va_G} {C : Nat → ClassId} {o r q : Nat} {th n m : Int32} {K : Nat → Nat → Int32} {X : va_W} {H : Heap} {v : Int32} (h : va_P D vwCl ([(o, .inr (2, [.int th, .int n, .ref r, .ref q])), (r, .inl (C 0, 140, .inl (cu_sg K))), (q, .inl (C 0, 1, .inl (upd (fun _ => m) 0 v)))] ++ X) H) : va_P D vwCl (cu_mw C o r q th n v K ++ X) H := by
  intro k z hz
  match k, hz with
  | 0, hz => exact h 0 z hz
  | 1, hz => exact h 1 z hz
  | 2, hz =>
    have h2 := h 2 (q, .inl (C 0, 1, .inl (upd (fun _ => m) 0 v))) rfl
    have e : z = (q, .inl (C 0, 1, .inl (fun _ => v))) := (Option.some.inj hz).symm
    rw [e]
    have h3 : H[q]? = some (vp_cell (C 0) (1, .inl (upd (fun _ => m) 0 v))) := h2
    show H[q]? = some (vp_cell (C 0) (1, .inl (fun _ => v)))
    rw [h3]
    rfl
  | k + 3, hz => exact h (k + 3) z hz
theorem cu_P_pre {D : va_G} {w X : va_W} {H : Heap} (h : va_P D vwCl (w ++ X) H) : va_P D vwCl w H := by
  intro k q hk
  exact h k q (by rw [List.getElem?_append_left (List.getElem?_eq_some_iff.mp hk).1]; exact hk)
set_option maxHeartbeats 4000000 in
set_option maxRecDepth 100000 in
theorem m_X2_kept (l : Launch) (D : va_G) (C : Nat → ClassId) (o r q : Nat) (th : Int32) (n mn : Int32) (K : Nat → Nat → Int32) : cu_R l D C yX2_kept wsX2_kept { frames := 1, cells := 3, slots := 143, locals := 30 } [.ref o] (cu_mw C o r q th n mn K) (fun u => cu_kx C u mn K) 3 143 := by
  refine cu_openR (cc := cX2_kept) (maxL := 1) (ty := .array (.array .int)) (own := RX2) (by decide) rfl rfl (Or.inr ⟨_, rfl⟩) (Nat.le_of_ble_eq_true rfl) ?_
  intro p e s m args below meth c A Z H0 ls e0 hx hb hml hts hown hnm hG hP hD hS hA hl fin
  have hK := hG.1
  have hl : lv_has ls 1 [(0, .ref o)] := hl
  have hiX2 : ∀ w ∈ wsX20, w ∈ wsX2_kept := by decide +kernel
  have hnmI : s.vm.findClass "[I" = some (C 0) := (hK.2 0 (C 0, .int) rfl).2
  have hcast : va_Nw (.castable "[I" "java/lang/Cloneable") s := hG.2.2.2.1 ("[I", "java/lang/Cloneable") (by decide +kernel)
  have hfit : ∀ (n : Nat) (f : Nat → Int32) (i : Nat) (v : Value), (vp_cell (C 0) (n, .inl f)).slots[i]? = some v → fits .int v = true := by
    intro n f i v hv
    have hi : i < n := by
      have h1 := (Array.getElem?_eq_some_iff.mp hv).1
      rw [vp_cell_i, arrV_size] at h1
      exact h1
    rw [vp_cell_i, arrV_read _ _ hi] at hv
    rw [← Option.some.inj hv]
    rfl
  refine lv_iconst (v := 2) hx hb dX2_kept_0 (by decide) ?_
  refine cu_newA hx hb hown (hts (.classLink RX2 94 "[I") (by decide +kernel)) hG.2.2.2.2.2.2.2.1 hK hP hD hS hA (Nat.le_of_ble_eq_true rfl) (Nat.le_of_ble_eq_true rfl) dX2_kept_1 (fun a H hP hD hS hcc => ?_)
  refine lv_dup hx hb dX2_kept_4 rfl ?_
  refine lv_iconst (v := 0) hx hb dX2_kept_5 (by decide) ?_
  refine lv_aload_n hx hb dX2_kept_6 rfl (lv_at hl 0 rfl) ?_
  refine va_get (D := D) (ci := 2) (v := .ref r) (C := RX2) (T := TX2) (N := 4) hx hb hts hiX2 hown hK hP 0 rfl rfl 2 (by decide) (hts (.fieldLink RX2 9 "CuckooShopModel" "shop" "[I") (by decide +kernel)) (fun _ h9 => h9) rfl dX2_kept_7 ?_
  refine va_clone (ad := "[I") hx hb (hml.trans hl.1.symm) hown (hts (.methodLink RX2 95 ⟨"[I", "clone", "()Ljava/lang/Object;"⟩) (by decide +kernel)) (hts (.sameMethod "[I" "java/lang/Object" "clone" "()Ljava/lang/Object;") (by decide +kernel)) (hts (.native ⟨"java/lang/Object", "clone", "()Ljava/lang/Object;"⟩) (by decide +kernel)) (hts (.instanceMethod ⟨"java/lang/Object", "clone", "()Ljava/lang/Object;"⟩) (by decide +kernel)) (hts (.selects "[I" ⟨"[I", "clone", "()Ljava/lang/Object;"⟩ ⟨"java/lang/Object", "clone", "()Ljava/lang/Object;"⟩) (by decide +kernel)) hcast hK hP hD hS hA 1 0 (x := (140, .inl (cu_sg K))) rfl rfl hnmI (hfit 140 (cu_sg K)) (Nat.le_of_ble_eq_true rfl) (Nat.le_of_ble_eq_true rfl) (Nat.le_of_ble_eq_true rfl) (Nat.le_of_ble_eq_true rfl) dX2_kept_10 (fun b H _ hP hD hS => ?_)
  refine va_castA (nm := "[I") hx hb hown (hts (.classLink RX2 94 "[I") (by decide +kernel)) hP 4 rfl hnmI dX2_kept_13 ?_
  refine cu_astA hx hb hK hP hD hS hcc 3 4 (x := (140, cu_sg K)) rfl rfl (vp_in_nI (n := 0) (by decide) (by decide)) dX2_kept_16 (fun H locs hP hD hS => ?_)
  refine lv_dup hx hb dX2_kept_17 rfl ?_
  refine lv_iconst (v := 1) hx hb dX2_kept_18 (by decide) ?_
  refine lv_aload_n hx hb dX2_kept_19 rfl (lv_at hl 0 rfl) ?_
  refine va_get (D := D) (ci := 2) (v := .ref q) (C := RX2) (T := TX2) (N := 4) hx hb hts hiX2 hown hK hP 0 rfl rfl 3 (by decide) (hts (.fieldLink RX2 13 "CuckooShopModel" "minute" "[I") (by decide +kernel)) (fun _ h9 => h9) rfl dX2_kept_20 ?_
  refine va_clone (ad := "[I") hx hb (hml.trans hl.1.symm) hown (hts (.methodLink RX2 95 ⟨"[I", "clone", "()Ljava/lang/Object;"⟩) (by decide +kernel)) (hts (.sameMethod "[I" "java/lang/Object" "clone" "()Ljava/lang/Object;") (by decide +kernel)) (hts (.native ⟨"java/lang/Object", "clone", "()Ljava/lang/Object;"⟩) (by decide +kernel)) (hts (.instanceMethod ⟨"java/lang/Object", "clone", "()Ljava/lang/Object;"⟩) (by decide +kernel)) (hts (.selects "[I" ⟨"[I", "clone", "()Ljava/lang/Object;"⟩ ⟨"java/lang/Object", "clone", "()Ljava/lang/Object;"⟩) (by decide +kernel)) hcast hK hP hD hS hA 2 0 (x := (1, .inl (fun _ => mn))) rfl rfl hnmI (hfit 1 (fun _ => mn)) (Nat.le_of_ble_eq_true rfl) (Nat.le_of_ble_eq_true rfl) (Nat.le_of_ble_eq_true rfl) (Nat.le_of_ble_eq_true rfl) dX2_kept_23 (fun d H _ hP hD hS => ?_)
  refine va_castA (nm := "[I") hx hb hown (hts (.classLink RX2 94 "[I") (by decide +kernel)) hP 5 rfl hnmI dX2_kept_26 ?_
  refine cu_astA hx hb hK hP hD hS hcc 3 5 (x := (1, fun _ => mn)) rfl rfl (vp_in_nI (n := 1) (by decide) (by decide)) dX2_kept_29 (fun H locs hP hD hS => ?_)
  exact fin a (b, d) _ _ _ _ hP hD hS dX2_kept_30
set_option maxHeartbeats 4000000 in
set_option maxRecDepth 100000 in
theorem m_X2_bringBack (l : Launch) (D : va_G) (C : Nat → ClassId) (o r q : Nat) (th : Int32) (n mn : Int32) (K : Nat → Nat → Int32) (u : Nat × Nat × Nat) (m0 : Int32) (J : Nat → Nat → Int32) : cu_V l D C yX2_bringBack wsX2_bringBack { frames := 1, cells := 0, slots := 0, locals := 40 } [.ref o, .ref u.1] (cu_mw C o r q th n mn K ++ cu_kx C u m0 J) (cu_mw C o r q th n m0 J ++ cu_kx C u m0 J) 0 0 := by
  refine cu_openV (cc := cX2_bringBack) (maxL := 2) (own := RX2) (by decide) rfl rfl (Nat.le_of_ble_eq_true rfl) ?_
  intro p e s m args below meth c A Z H0 ls e0 hx hb hml hts hown hnm hG hP hD hS hA hl fin
  have hK := hG.1
  have hl : lv_has ls 2 [(0, .ref o), (1, .ref u.1)] := hl
  have hiX2 : ∀ w ∈ wsX20, w ∈ wsX2_bringBack := by decide +kernel
  refine lv_aload_n hx hb dX2_bringBack_0 rfl (lv_at hl 1 rfl) ?_
  refine lv_iconst (v := 0) hx hb dX2_bringBack_1 (by decide) ?_
  refine cu_aaldA hx hb hK hP 3 rfl (vp_in_nI (n := 0) (by decide) (by decide)) dX2_bringBack_2 ?_
  refine W.eq (g2 := F0 m 3 ls [.ref u.2.1]) rfl ?_
  refine lv_iconst (v := 0) hx hb dX2_bringBack_3 (by decide) ?_
  refine lv_aload_n hx hb dX2_bringBack_4 rfl (lv_at hl 0 rfl) ?_
  refine va_get (D := D) (ci := 2) (v := .ref r) (C := RX2) (T := TX2) (N := 4) hx hb hts hiX2 hown hK hP 0 rfl rfl 2 (by decide) (hts (.fieldLink RX2 9 "CuckooShopModel" "shop" "[I") (by decide +kernel)) (fun _ h9 => h9) rfl dX2_bringBack_5 ?_
  refine lv_iconst (v := 0) hx hb dX2_bringBack_8 (by decide) ?_
  refine lv_aload_n hx hb dX2_bringBack_9 rfl (lv_at hl 0 rfl) ?_
  refine va_get (D := D) (ci := 2) (v := .ref r) (C := RX2) (T := TX2) (N := 4) hx hb hts hiX2 hown hK hP 0 rfl rfl 2 (by decide) (hts (.fieldLink RX2 9 "CuckooShopModel" "shop" "[I") (by decide +kernel)) (fun _ h9 => h9) rfl dX2_bringBack_10 ?_
  refine va_alen (x := (140, .inl (cu_sg K))) (v := 140) hx hb hK hP 1 0 rfl rfl rfl dX2_bringBack_13 ?_
  refine va_copyi (ty := .int) hx hb (hml.trans hl.1.symm) hown (hts (.methodLink RX2 31 arraycopyName) (by decide +kernel)) (hts (.native arraycopyName) (by decide +kernel)) (hts (.static arraycopyName) (by decide +kernel)) (hts (.initialized "java/lang/System") (by decide +kernel)) hK hP hD hS 4 1 0 0 (n0 := 140) (n1 := 140) (f := cu_sg J) (g := cu_sg K) rfl rfl rfl rfl rfl (by decide) (by decide) (by decide) (Nat.le_of_ble_eq_true rfl) (Nat.le_of_ble_eq_true rfl) (fun _ _ => rfl) (Nat.le_of_ble_eq_true rfl) (Nat.le_of_ble_eq_true rfl) dX2_bringBack_14 (fun H locs hP hD hS => ?_)
  have hP : va_P D vwCl (cu_mw C o r q th n mn J ++ cu_kx C u m0 J) H := cu_mw_k hP
  have hD : va_D A (cu_mw C o r q th n mn J ++ cu_kx C u m0 J) := by refine cu_D_fst ?_ hD; rfl
  refine lv_aload_n hx hb dX2_bringBack_17 rfl (lv_at hl 0 rfl) ?_
  refine va_get (D := D) (ci := 2) (v := .ref q) (C := RX2) (T := TX2) (N := 4) hx hb hts hiX2 hown hK hP 0 rfl rfl 3 (by decide) (hts (.fieldLink RX2 13 "CuckooShopModel" "minute" "[I") (by decide +kernel)) (fun _ h9 => h9) rfl dX2_bringBack_18 ?_
  refine lv_iconst (v := 0) hx hb dX2_bringBack_21 (by decide) ?_
  refine lv_aload_n hx hb dX2_bringBack_22 rfl (lv_at hl 1 rfl) ?_
  refine lv_iconst (v := 1) hx hb dX2_bringBack_23 (by decide) ?_
  refine cu_aaldA hx hb hK hP 3 rfl (vp_in_nI (n := 1) (by decide) (by decide)) dX2_bringBack_24 ?_
  refine W.eq (g2 := F0 m 25 ls [.ref u.2.2, .int 0, .ref q]) rfl ?_
  refine lv_iconst (v := 0) hx hb dX2_bringBack_25 (by decide) ?_
  refine va_iald (n := 1) (f := fun _ => m0) hx hb hK hP 5 0 rfl rfl (vp_in_nI (n := 0) (by decide) (by decide)) dX2_bringBack_26 ?_
  refine cu_top (x' := m0) rfl ?_
  refine va_iast (n := 1) (f := fun _ => mn) hx hb hK hP hD hS 2 0 rfl rfl (vp_in_nI (n := 0) (by decide) (by decide)) dX2_bringBack_27 (fun H locs hP hD hS => ?_)
  exact fin _ _ _ _ (cu_mw_mX (m := mn) hP) hS dX2_bringBack_28
