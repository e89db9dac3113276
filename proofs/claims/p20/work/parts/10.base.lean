/-! THE FORMS: worlds, contracts, calls, in which every method of this claim is said (my own) -/
/-- a clock's cell: its numbers K, by the places 0 shown, 1 rest, 2 chain, 3 oil, 4 bellows, 5 goes, 6 calls, 7 missed, 8 latest, 9 a, 10 b, 11 swing, 12 from, 13 till -/
abbrev cu_ck (K : Nat → Int32) : List Value := [.int (K 9), .int (K 10), .int (K 11), .int (K 2), .int (K 3), .int (K 4), .int (K 5), .int (K 0), .int (K 1), .int (K 12), .int (K 13), .int (K 6), .int (K 7), .int (K 8)]
abbrev cu_wc (h : Nat) (K : Nat → Int32) : va_W := [(h, .inr (0, cu_ck K))]
def cu_row (a : Nat → Nat) (b : Nat) (K : Nat → Nat → Int32) : va_W := (List.range 10).map (fun i => (a (b + i), .inr (0, cu_ck (K i))))
/-- the shop: its object, its two rows, twenty clocks -/
def cu_cw (C : Nat → ClassId) (a : Nat → Nat) (n m : Int32) (K P : Nat → Nat → Int32) : va_W :=
  (a 0, .inr (1, [.ref (a 1), .ref (a 2), .int n, .int m])) :: (a 1, .inl (C 1, 10, .inr (.inr (.inr (.inr (fun i => some (a (3 + i)))))))) :: (a 2, .inl (C 1, 10, .inr (.inr (.inr (.inr (fun i => some (a (13 + i)))))))) :: (cu_row a 3 K ++ cu_row a 13 P)
abbrev cu_tys (C : Nat → ClassId) : List (ClassId × FieldType) := [(C 0, .int), (C 1, .object "CuckooShop$Clock"), (C 2, .object "CuckooShopLaw$Clock"), (C 3, .array .int)]
/-- links of nest mates, what may be cast and what not, texts: what a callee's list of words doesn't bear -/
def cu_nestM : List (Nat × MethodName) := [(18, yX0_init), (37, yX0_putHands), (54, yX0_fitTrain), (58, yX0_advance), (66, yX0_drawUp), (69, yX0_fillOil), (72, yX0_patchBellows), (75, yX0_nudge), (82, yX0_silence), (91, yX0_reading), (107, yX0_copyFrom), (111, yX0_runMinute), (117, yX0_minutesToStand)]
def cu_nestF : List (Nat × String × String) := [(114, "latestCalls", "I"), (134, "goes", "Z"), (157, "shown", "I")]
def cu_casts : List (String × String) := [("java/lang/IllegalArgumentException", "java/lang/IllegalArgumentException"), ("java/lang/IllegalStateException", "java/lang/IllegalStateException"), ("java/lang/IndexOutOfBoundsException", "java/lang/IndexOutOfBoundsException")]
def cu_nestL : List (String × Nat × MethodName) := [(RX3, 24, yX2_init), (RL, 93, yX3_init)]
def cu_txts : List (Nat × String) := [(32, "there are 10 clocks"), (49, "a gear has 20 to 40 teeth"), (52, "a pendulum is -20 to 20"), (78, "what is mended is 0 to 2"), (80, "till is 0 if from is -1"), (88, "what is told of a clock is 0 to 10"), (95, "what is counted is 0 to 7"), (123, "what is foreseen is 0 to 3"), (146, "there is no such clock"), (148, "a time of the dial is 0 to 719"), (150, "minutes are 1 to 720")]
def cu_decls : List MethodName := [⟨"java/lang/RuntimeException", "<init>", "(Ljava/lang/String;)V"⟩, ⟨"java/lang/Exception", "<init>", "(Ljava/lang/String;)V"⟩, ⟨"java/lang/Throwable", "<init>", "(Ljava/lang/String;)V"⟩]
def cu_AO (U : State) : Prop := (Cond.arrayOver (.array .int)).before #[] U = true
theorem cu_AO.use {A : Array Value} {U : State} (h : cu_AO U) : (Cond.arrayOver (.array .int)).before A U = true := h
theorem cu_AO.moved {u U : State} (hvm : u.vm.Alike U.vm) (h : cu_AO u) : cu_AO U := by
  unfold cu_AO Cond.before Cond.holds at h ⊢
  simp only [Cond.value] at h ⊢
  obtain ⟨comp, h1, h2⟩ := Option.bind_eq_some_iff.mp (beq_iff_eq.mp h)
  obtain ⟨c, h3, h4⟩ := Option.bind_eq_some_iff.mp h2
  obtain ⟨k, h5, h6⟩ := Option.map_eq_some_iff.mp h4
  obtain ⟨k', hk', he⟩ := hvm.2.2 _ _ h5
  have hq := va_idx_bare U.vm comp
  first | rw [hvm.bare_eq] at hq | rw [← hvm.bare_eq] at hq
  have hi := hq.symm.trans ((va_idx_bare u.vm comp).trans h3)
  have hkind : k'.kind = k.kind := by rw [he]
  refine beq_iff_eq.mpr (Option.bind_eq_some_iff.mpr ⟨comp, by rw [hvm.findClass]; exact h1, Option.bind_eq_some_iff.mpr ⟨c, hi, Option.map_eq_some_iff.mpr ⟨k', hk', ?_⟩⟩⟩)
  rw [hkind, hvm.findClass]
  exact h6
/-- what the tables say, for every method alike -/
def cu_G (D : va_G) (C : Nat → ClassId) (U : State) : Prop :=
  va_K D vwCl (cu_tys C) U ∧ (∀ q ∈ cu_nestM, va_Nw (.methodLinkNest RX1 q.1 q.2 RX1) U) ∧ (∀ q ∈ cu_nestF, va_Nw (.fieldLinkNest RX1 q.1 RX0 q.2.1 q.2.2 RX1) U) ∧ (∀ q ∈ cu_casts, va_Nw (.castable q.1 q.2) U) ∧ (∀ q ∈ cu_nestL, va_Nw (.methodLinkNest q.1 q.2.1 q.2.2 RL) U) ∧ (∀ q ∈ cu_txts, ∃ a : Nat, vk_R RX1 q.1 q.2 a U) ∧ (∀ q ∈ cu_decls, va_Nw (.declares q) U) ∧ cu_AO U ∧ va_AO "CuckooShop$Clock" U ∧ va_AO "CuckooShopLaw$Clock" U
theorem cu_G.warm {D : va_G} {C : Nat → ClassId} {s U : State} (hW : s.WarmedH U.vm) (h : cu_G D C s) : cu_G D C U := by
  obtain ⟨h1, h2, h3, h4, h5, h6, h7, h8, h9, h10⟩ := h
  refine ⟨h1.moved hW.alike, fun q hq => va_Nw.warmM hW (h2 q hq), fun q hq => va_Nw.warmF hW (h3 q hq), fun q hq => va_Nw.warmC hW (h4 q hq), fun q hq => va_Nw.warmM hW (h5 q hq), fun q hq => ?_, fun q hq => va_Nw.warmD hW (h7 q hq), h8.moved hW.alike, va_AO.moved hW.alike h9, va_AO.moved hW.alike h10⟩
  obtain ⟨a, ha⟩ := h6 q hq
  exact ⟨a, ha.warm hW⟩
theorem cu_G.same {D : va_G} {C : Nat → ClassId} {s U : State} (hv : U.vm = s.vm) (h : cu_G D C s) : cu_G D C U := by
  obtain ⟨h1, h2, h3, h4, h5, h6, h7, h8, h9, h10⟩ := h
  have ha : s.vm.Alike U.vm := by rw [hv]; exact Vm.Alike.refl _
  refine ⟨h1.moved ha, fun q hq => va_Nw.same rfl hv.symm (h2 q hq), fun q hq => va_Nw.same rfl hv.symm (h3 q hq), fun q hq => va_Nw.same rfl hv.symm (h4 q hq), fun q hq => va_Nw.same rfl hv.symm (h5 q hq), fun q hq => ?_, fun q hq => va_Nw.same rfl hv.symm (h7 q hq), h8.moved ha, va_AO.moved ha h9, va_AO.moved ha h10⟩
  obtain ⟨a, hb⟩ := h6 q hq
  exact ⟨a, vk_R.same hv hb⟩
/-- a method's start -/
def cu_B (D : va_G) (C : Nat → ClassId) (w : va_W) (sz : Nat) (U : State) : Prop := U.heap.size = sz ∧ va_P D vwCl w U.heap ∧ va_D (fun _ => True) w ∧ cu_G D C U
theorem cu_blind {D : va_G} {C : Nat → ClassId} {w : va_W} {sz : Nat} {av : List Value} : FrameBlind (va_Pc av (cu_B D C w sz)) := by
  intro a U g mk q
  obtain ⟨q0, q1, q2, q3, q4⟩ := q
  exact ⟨q0, q1, q2, q3, cu_G.same (s := U) (U := U.calling g mk a) rfl q4⟩
/-! worlds in worlds -/
theorem cu_Diff {A : Nat → Prop} {w : va_W} : va_D A w ↔ (w.map Prod.fst).Nodup ∧ ∀ q ∈ w, A q.1 := by
  constructor
  · intro h
    refine ⟨?_, fun q hq => ?_⟩
    · refine List.pairwise_iff_getElem.mpr ?_
      intro i j hi hj hij he
      rw [List.length_map] at hi hj
      rw [List.getElem_map, List.getElem_map] at he
      have := h.1 i j w[i] w[j] (List.getElem?_eq_getElem hi) (List.getElem?_eq_getElem hj) he
      omega
    · obtain ⟨k, hk⟩ := List.getElem?_of_mem hq
      exact h.2 k q hk
  · intro ⟨h1, h2⟩
    refine ⟨fun i j p q hi hj he => ?_, fun k q hk => h2 q (List.mem_of_getElem? hk)⟩
    have h3 := List.pairwise_iff_getElem.mp h1
    obtain ⟨hil, ei⟩ := List.getElem?_eq_some_iff.mp hi
    obtain ⟨hjl, ej⟩ := List.getElem?_eq_some_iff.mp hj
    have hil' : i < (w.map Prod.fst).length := by rw [List.length_map]; exact hil
    have hjl' : j < (w.map Prod.fst).length := by rw [List.length_map]; exact hjl
    rcases Nat.lt_trichotomy i j with q9 | q9 | q9
    · exact absurd (by rw [List.getElem_map, List.getElem_map, ei, ej]; exact he) (h3 i j hil' hjl' q9)
    · exact q9
    · exact absurd (by rw [List.getElem_map, List.getElem_map, ei, ej]; exact he.symm) (h3 j i hjl' hil' q9)
/-- w lies in W0; with w' in its place that is W1 -/
def cu_sp (W0 w W1 w' : va_W) : Prop :=
  (∀ q ∈ w, q ∈ W0) ∧ ((W0.map Prod.fst).Nodup → (w.map Prod.fst).Nodup) ∧ W1.map Prod.fst = W0.map Prod.fst ∧ ((W0.map Prod.fst).Nodup → ∀ q ∈ W1, q ∈ w' ∨ (q ∈ W0 ∧ q.1 ∉ w.map Prod.fst))
theorem cu_sp.fst {W0 w W1 w' : va_W} (h : cu_sp W0 w W1 w') : W1.map Prod.fst = W0.map Prod.fst := h.2.2.1
theorem cu_D_fst {A : Nat → Prop} {W0 W1 : va_W} (h : W1.map Prod.fst = W0.map Prod.fst) (hD : va_D A W0) : va_D A W1 := by
  rw [cu_Diff] at hD ⊢
  refine ⟨by rw [h]; exact hD.1, fun q hq => ?_⟩
  have : q.1 ∈ W0.map Prod.fst := by rw [← h]; exact List.mem_map_of_mem hq
  obtain ⟨z, hz, e⟩ := List.mem_map.mp this
  rw [← e]
  exact hD.2 z hz
theorem cu_sp.P {D : va_G} {cl : List vw_C} {W0 w W1 w' : va_W} {H : Heap} (h : cu_sp W0 w W1 w') (hP : va_P D cl W0 H) : va_P D cl w H := fun k q hk => by
  obtain ⟨i, hi⟩ := List.getElem?_of_mem (h.1 q (List.mem_of_getElem? hk))
  exact hP i q hi
theorem cu_sp.D {A : Nat → Prop} {W0 w W1 w' : va_W} (h : cu_sp W0 w W1 w') (hD : va_D A W0) : va_D A w := by
  rw [cu_Diff] at hD ⊢
  exact ⟨h.2.1 hD.1, fun q hq => hD.2 q (h.1 q hq)⟩
theorem cu_sp.F {A : Nat → Prop} {W0 w W1 w' : va_W} {H0 H : Heap} {locs : List Loc} (h : cu_sp W0 w W1 w') (hD : va_D A W0) (hS : va_S A H0 H locs) (hA : ∀ q, H0.size ≤ q → A q) : ∀ q, va_A w H.size q → A q := by
  intro q hq
  rcases hq with ⟨k, e, hk⟩ | hq
  · exact (h.D hD).2 k (q, e) hk
  · exact hA q (Nat.le_trans hS.1 hq)
theorem cu_sp.join {D : va_G} {cl : List vw_C} {A : Nat → Prop} {W0 w W1 w' : va_W} {H H1 : Heap} (h : cu_sp W0 w W1 w') (hP : va_P D cl W0 H) (hD : va_D A W0) (hk : ∀ q : Nat, q < H.size → ¬ va_A w H.size q → H1[q]? = H[q]?) (hP1 : va_P D cl w' H1) : va_P D cl W1 H1 := by
  intro k q hq
  have hn := (cu_Diff.mp hD).1
  rcases h.2.2.2 hn q (List.mem_of_getElem? hq) with h1 | ⟨h1, h2⟩
  · obtain ⟨i, hi⟩ := List.getElem?_of_mem h1
    exact hP1 i q hi
  · obtain ⟨i, hi⟩ := List.getElem?_of_mem h1
    have hl := (hP i q hi).lt
    refine (hP i q hi).kept (hk q.1 hl (fun z => ?_))
    rcases z with ⟨j, e, hj⟩ | z
    · exact h2 (List.mem_map.mpr ⟨_, List.mem_of_getElem? hj, rfl⟩)
    · omega
theorem cu_sp.all {W0 W1 : va_W} (h : W1.map Prod.fst = W0.map Prod.fst) : cu_sp W0 W0 W1 W1 := ⟨fun _ h => h, fun h => h, h, fun _ _ h => Or.inl h⟩
theorem cu_sp.nil {W0 : va_W} : cu_sp W0 [] W0 [] := ⟨fun _ h => absurd h List.not_mem_nil, fun _ => List.nodup_nil, rfl, fun _ _ h => Or.inr ⟨h, List.not_mem_nil⟩⟩
theorem cu_nd2 {W0 : va_W} (hn : (W0.map Prod.fst).Nodup) {i j : Nat} {p q : Nat × va_E} (hi : W0[i]? = some p) (hj : W0[j]? = some q) (e : p.1 = q.1) : i = j :=
  (cu_Diff.mpr ⟨hn, fun _ _ => trivial⟩ : va_D (fun _ => True) W0).1 i j p q hi hj e
theorem cu_sp.one {W0 : va_W} {k a : Nat} {e0 : va_E} (e1 : va_E) (h : W0[k]? = some (a, e0)) : cu_sp W0 [(a, e0)] (W0.set k (a, e1)) [(a, e1)] := by
  have hl := (List.getElem?_eq_some_iff.mp h).1
  refine ⟨fun q hq => ?_, fun _ => by simp, ?_, fun hn q hq => ?_⟩
  · rw [List.mem_singleton.mp hq]; exact List.mem_of_getElem? h
  · apply List.ext_getElem?
    intro i
    rw [List.getElem?_map, List.getElem?_map]
    by_cases hi : i = k
    · subst hi; rw [List.getElem?_set_self hl, h]; rfl
    · rw [List.getElem?_set_ne (Ne.symm hi)]
  · obtain ⟨i, hi⟩ := List.getElem?_of_mem hq
    by_cases hik : i = k
    · subst hik
      rw [List.getElem?_set_self hl] at hi
      exact Or.inl (by rw [← Option.some.inj hi]; exact List.mem_singleton_self _)
    · rw [List.getElem?_set_ne (Ne.symm hik)] at hi
      refine Or.inr ⟨List.mem_of_getElem? hi, fun hz => ?_⟩
      have hz' : q.1 = a := by simpa using hz
      exact hik (cu_nd2 hn hi h hz')
theorem cu_sp.rd {W0 : va_W} {k a : Nat} {e0 : va_E} (h : W0[k]? = some (a, e0)) : cu_sp W0 [(a, e0)] W0 [(a, e0)] := by
  have h1 := cu_sp.one e0 h
  have e : W0.set k (a, e0) = W0 := by
    apply List.ext_getElem?
    intro i
    by_cases hi : i = k
    · subst hi; rw [List.getElem?_set_self (List.getElem?_eq_some_iff.mp h).1, h]
    · rw [List.getElem?_set_ne (Ne.symm hi)]
  rw [e] at h1
  exact h1
theorem cu_sp.two {W0 : va_W} {k j a b : Nat} {e0 f0 : va_E} (e1 : va_E) (h : W0[k]? = some (a, e0)) (hj : W0[j]? = some (b, f0)) (hkj : k ≠ j) : cu_sp W0 [(a, e0), (b, f0)] (W0.set k (a, e1)) [(a, e1), (b, f0)] := by
  have h1 := cu_sp.one e1 h
  refine ⟨fun q hq => ?_, fun hn => ?_, h1.2.2.1, fun hn q hq => ?_⟩
  · rcases List.mem_cons.mp hq with e | hq
    · rw [e]; exact List.mem_of_getElem? h
    · rw [List.mem_singleton.mp hq]; exact List.mem_of_getElem? hj
  · have hab : a ≠ b := fun e => hkj (cu_nd2 hn h hj e)
    simp [hab]
  · rcases h1.2.2.2 hn q hq with hz | ⟨hz, hz2⟩
    · exact Or.inl (by rw [List.mem_singleton.mp hz]; exact List.mem_cons_self)
    · by_cases hb : q.1 = b
      · obtain ⟨i, hi⟩ := List.getElem?_of_mem hz
        have e9 := cu_nd2 hn hi hj hb
        subst e9
        rw [hj] at hi
        exact Or.inl (by rw [← Option.some.inj hi]; exact List.mem_cons_of_mem _ (List.mem_singleton_self _))
      · refine Or.inr ⟨hz, fun hm => ?_⟩
        have hm' : q.1 = a ∨ q.1 = b := by simpa using hm
        rcases hm' with e | e
        · exact hz2 (by simp [e])
        · exact hb e
theorem cu_sp.mid {X w w' Y : va_W} (h : w'.map Prod.fst = w.map Prod.fst) : cu_sp (X ++ (w ++ Y)) w (X ++ (w' ++ Y)) w' := by
  refine ⟨fun q hq => by simp [hq], fun hn => ?_, by simp [h], fun hn q hq => ?_⟩
  · rw [List.map_append, List.map_append] at hn
    exact (List.nodup_append.mp (List.nodup_append.mp hn).2.1).1
  · rw [List.map_append, List.map_append] at hn
    obtain ⟨-, hn2, hn3⟩ := List.nodup_append.mp hn
    obtain ⟨-, -, hn4⟩ := List.nodup_append.mp hn2
    rcases List.mem_append.mp hq with h1 | h1
    · refine Or.inr ⟨List.mem_append_left _ h1, fun hz => ?_⟩
      exact hn3 q.1 (List.mem_map_of_mem h1) q.1 (List.mem_append_left _ hz) rfl
    · rcases List.mem_append.mp h1 with h2 | h2
      · exact Or.inl h2
      · refine Or.inr ⟨by simp [h2], fun hz => ?_⟩
        exact hn4 q.1 hz q.1 (List.mem_map_of_mem h2) rfl
theorem cu_sp.pre {w w' Y : va_W} (h : w'.map Prod.fst = w.map Prod.fst) : cu_sp (w ++ Y) w (w' ++ Y) w' := cu_sp.mid (X := []) h
theorem cu_sp.suf {X w w' : va_W} (h : w'.map Prod.fst = w.map Prod.fst) : cu_sp (X ++ w) w (X ++ w') w' := by
  have h1 := cu_sp.mid (X := X) (Y := []) h
  simpa using h1
/-! contracts: from a world w to w', with the answer val -/
def cu_I (l : Launch) (D : va_G) (C : Nat → ClassId) (y : MethodName) (ws : List Cond) (rm : Room) (av : List Value) (w w' : va_W) (val : Int32) (mc ms : Nat) : Prop :=
  ∀ sz : Nat, Met l y ws rm (va_Pc av (cu_B D C w sz)) (va_Qi (fun (r : Int32) (_ : Unit) => r = val) (fun _ t => va_P D vwCl w' t.heap) (va_A w sz)) mc ms (va_A w sz)
def cu_V (l : Launch) (D : va_G) (C : Nat → ClassId) (y : MethodName) (ws : List Cond) (rm : Room) (av : List Value) (w w' : va_W) (mc ms : Nat) : Prop :=
  ∀ sz : Nat, Met l y ws rm (va_Pc av (cu_B D C w sz)) (va_Qv (fun (_ : Unit) => True) (fun _ t => va_P D vwCl w' t.heap) (va_A w sz)) mc ms (va_A w sz)
def cu_L (l : Launch) (D : va_G) (C : Nat → ClassId) (y : MethodName) (ws : List Cond) (rm : Room) (av : List Value) (w w' : va_W) (val : Int64) (mc ms : Nat) : Prop :=
  ∀ sz : Nat, Met l y ws rm (va_Pc av (cu_B D C w sz)) (va_Ql (fun (r : Int64) (_ : Unit) => r = val) (fun _ t => va_P D vwCl w' t.heap) (va_A w sz)) mc ms (va_A w sz)
section CUO
variable {l : Launch} {D : va_G} {C : Nat → ClassId} {y : MethodName} {ws ws' : List Cond} {rm : Room} {av : List Value} {w w' : va_W} {mc ms maxL : Nat} {cc : ByteArray} {own : String}
set_option maxHeartbeats 1000000 in
theorem cu_openI {val : Int32} {ty : FieldType} (hy : plainName y.cls = true) (ho : y.cls = own) (hw : ws = Cond.code y cc maxL (some ty) :: ws') (hz : (lg_sl av).length ≤ maxL)
    (body : ∀ (p : Program) (e : Env) (s : State) (m : MethodId) (args : Array Value) (below : List Frame) (meth : Method) (c : Code) (A : Nat → Prop) (Z : State → Prop) (H0 : Heap) (ls : Array Slot), s.heap = H0 → p.tables.exec = Jvm.exec → c.code = cc → c.maxLocals = maxL → (∀ w ∈ ws, w.before args s = true) → s.vm.findClass own = some m.cls → meth.name = y.name → cu_G D C s → va_P D vwCl w H0 → va_D A w → va_S A H0 H0 [] → (∀ q : Nat, H0.size ≤ q → A q) → lv_has ls maxL (lv_args 0 av) →
      (∀ (v : Int32) (H : Heap) (locs : List Loc) (pc : Nat) (ls : Array Slot), narrow ty (.int v) = .int v → v = val → va_P D vwCl w' H → va_S A H0 H locs → decode cc pc = .ok (.ireturn, 1) → W p l e rm s m args below meth c H locs mc ms Z (F0 m pc ls [.int v])) →
      W p l e rm s m args below meth c H0 [] 0 0 Z (F0 m 0 ls [])) : cu_I l D C y ws rm av w w' val mc ms := by
  intro sz
  refine Met.ofW (cc := cc) (maxL := maxL) (ret := some ty) hy hw ?_
  intro p e s m args below meth c s₁ B hml hv
  obtain ⟨rfl, hsz, hP, hD0, hG⟩ := hv
  subst hsz
  have hl := lv_entry av (n := maxL) hz
  rw [lg_entry_eq]
  refine body p e s m _ below meth c (va_A w s.heap.size) _ _ _ rfl B.exec B.bytes hml (atoms_spec (ws := ws) B.pre) (by rw [← ho]; exact findClass_of_methodNamed B.named) (name_of_methodNamed B.named B.method).1 hG hP hD0.self va_S.rf (fun q h => Or.inr h) hl ?_
  intro v H locs pc ls hn hv hP hS hd
  exact W.zret (v := v) B.exec B.bytes B.returns hn (fun t ht hW => ⟨⟨v, (), rfl, hv, by show va_P D vwCl w' t.heap; rw [ht]; exact hP⟩, hS.F ht⟩) hS.2.2 hd
theorem cu_ofWF {Pc : Array Value → State → Prop} {Qc : Array Value → State → Outcome → State → Prop} {free : Addr → Prop} {ret : Option FieldType}
    (hy : plainFor y = true) (hw : ws = Cond.code y cc maxL ret :: ws')
    (body : ∀ p e s m args below meth c s₁, BodyLoose p l y (headSpec ws rm) cc maxL ret e s m args below meth c s₁ → c.maxLocals = maxL → Pc args s →
      W p l e (headSpec ws rm).room s m args below meth c s.heap [] 0 0 (MQ below Qc args s mc ms free) (entryFrame m args maxL)) : Met l y ws rm Pc Qc mc ms free := by
  refine MetFree.of_bodySF (code := cc) (maxLocals := maxL) (ret := ret) hy ?_ ?_
  · intro args s m h hn
    obtain ⟨meth, c, h1, h2, h3, h4, h5, h6, -, -⟩ := Cond.code_spec hn (atoms_spec (ws := ws) h _ (by rw [hw]; exact List.mem_cons_self))
    exact ⟨meth, c, h1, h2, h3, h4, h5, h6⟩
  · intro p e s m args below meth c s₁ B hml hP _
    have hh0 : s₁.heap = s.heap := by rw [B.state]; rfl
    obtain ⟨t, a1, o, b1, b2, b3⟩ := body p e s m args below meth c s₁ B hml hP s₁ hh0 (Stand.of_body B)
    exact ⟨t, o, a1, b1, b2, ⟨b3.1, b3.2⟩⟩
set_option maxHeartbeats 1000000 in
theorem cu_openIF {val : Int32} {ty : FieldType} (hy : plainFor y = true) (ho : y.cls = own) (hw : ws = Cond.code y cc maxL (some ty) :: ws') (hz : (lg_sl av).length ≤ maxL)
    (body : ∀ (p : Program) (e : Env) (s : State) (m : MethodId) (args : Array Value) (below : List Frame) (meth : Method) (c : Code) (A : Nat → Prop) (Z : State → Prop) (H0 : Heap) (ls : Array Slot), s.heap = H0 → p.tables.exec = Jvm.exec → c.code = cc → c.maxLocals = maxL → (∀ w ∈ ws, w.before args s = true) → s.vm.findClass own = some m.cls → meth.name = y.name → cu_G D C s → va_P D vwCl w H0 → va_D A w → va_S A H0 H0 [] → (∀ q : Nat, H0.size ≤ q → A q) → lv_has ls maxL (lv_args 0 av) →
      (∀ (v : Int32) (H : Heap) (locs : List Loc) (pc : Nat) (ls : Array Slot), narrow ty (.int v) = .int v → v = val → va_P D vwCl w' H → va_S A H0 H locs → decode cc pc = .ok (.ireturn, 1) → W p l e rm s m args below meth c H locs mc ms Z (F0 m pc ls [.int v])) →
      W p l e rm s m args below meth c H0 [] 0 0 Z (F0 m 0 ls [])) : cu_I l D C y ws rm av w w' val mc ms := by
  intro sz
  refine cu_ofWF (cc := cc) (maxL := maxL) (ret := some ty) hy hw ?_
  intro p e s m args below meth c s₁ B hml hv
  obtain ⟨rfl, hsz, hP, hD0, hG⟩ := hv
  subst hsz
  have hl := lv_entry av (n := maxL) hz
  rw [lg_entry_eq]
  refine body p e s m _ below meth c (va_A w s.heap.size) _ _ _ rfl B.exec B.bytes hml (atoms_spec (ws := ws) B.pre) (by rw [← ho]; exact findClass_of_methodNamed B.named) (name_of_methodNamed B.named B.method).1 hG hP hD0.self va_S.rf (fun q h => Or.inr h) hl ?_
  intro v H locs pc ls hn hv hP hS hd
  exact W.zret (v := v) B.exec B.bytes B.returns hn (fun t ht hW => ⟨⟨v, (), rfl, hv, by show va_P D vwCl w' t.heap; rw [ht]; exact hP⟩, hS.F ht⟩) hS.2.2 hd
set_option maxHeartbeats 1000000 in
theorem cu_openV (hy : plainName y.cls = true) (ho : y.cls = own) (hw : ws = Cond.code y cc maxL none :: ws') (hz : (lg_sl av).length ≤ maxL)
    (body : ∀ (p : Program) (e : Env) (s : State) (m : MethodId) (args : Array Value) (below : List Frame) (meth : Method) (c : Code) (A : Nat → Prop) (Z : State → Prop) (H0 : Heap) (ls : Array Slot), s.heap = H0 → p.tables.exec = Jvm.exec → c.code = cc → c.maxLocals = maxL → (∀ w ∈ ws, w.before args s = true) → s.vm.findClass own = some m.cls → meth.name = y.name → cu_G D C s → va_P D vwCl w H0 → va_D A w → va_S A H0 H0 [] → (∀ q : Nat, H0.size ≤ q → A q) → lv_has ls maxL (lv_args 0 av) →
      (∀ (H : Heap) (locs : List Loc) (pc : Nat) (ls : Array Slot), va_P D vwCl w' H → va_S A H0 H locs → decode cc pc = .ok (.return_, 1) → W p l e rm s m args below meth c H locs mc ms Z (F0 m pc ls [])) →
      W p l e rm s m args below meth c H0 [] 0 0 Z (F0 m 0 ls [])) : cu_V l D C y ws rm av w w' mc ms := by
  intro sz
  refine Met.ofW (cc := cc) (maxL := maxL) (ret := none) hy hw ?_
  intro p e s m args below meth c s₁ B hml hv
  obtain ⟨rfl, hsz, hP, hD0, hG⟩ := hv
  subst hsz
  have hl := lv_entry av (n := maxL) hz
  rw [lg_entry_eq]
  refine body p e s m _ below meth c (va_A w s.heap.size) _ _ _ rfl B.exec B.bytes hml (atoms_spec (ws := ws) B.pre) (by rw [← ho]; exact findClass_of_methodNamed B.named) (name_of_methodNamed B.named B.method).1 hG hP hD0.self va_S.rf (fun q h => Or.inr h) hl ?_
  intro H locs pc ls hP hS hd
  exact W.vret B.exec B.bytes B.returns (fun t ht hW => ⟨⟨(), rfl, trivial, by show va_P D vwCl w' t.heap; rw [ht]; exact hP⟩, hS.F ht⟩) hS.2.2 hd
set_option maxHeartbeats 1000000 in
theorem cu_openL {val : Int64} (hy : plainName y.cls = true) (ho : y.cls = own) (hw : ws = Cond.code y cc maxL (some .long) :: ws') (hz : (lg_sl av).length ≤ maxL)
    (body : ∀ (p : Program) (e : Env) (s : State) (m : MethodId) (args : Array Value) (below : List Frame) (meth : Method) (c : Code) (A : Nat → Prop) (Z : State → Prop) (H0 : Heap) (ls : Array Slot), s.heap = H0 → p.tables.exec = Jvm.exec → c.code = cc → c.maxLocals = maxL → (∀ w ∈ ws, w.before args s = true) → s.vm.findClass own = some m.cls → meth.name = y.name → cu_G D C s → va_P D vwCl w H0 → va_D A w → va_S A H0 H0 [] → (∀ q : Nat, H0.size ≤ q → A q) → lv_has ls maxL (lv_args 0 av) →
      (∀ (v : Int64) (H : Heap) (locs : List Loc) (pc : Nat) (ls : Array Slot), v = val → va_P D vwCl w' H → va_S A H0 H locs → decode cc pc = .ok (.lreturn, 1) → W p l e rm s m args below meth c H locs mc ms Z (F0 m pc ls [.long v])) →
      W p l e rm s m args below meth c H0 [] 0 0 Z (F0 m 0 ls [])) : cu_L l D C y ws rm av w w' val mc ms := by
  intro sz
  refine Met.ofW (cc := cc) (maxL := maxL) (ret := some .long) hy hw ?_
  intro p e s m args below meth c s₁ B hml hv
  obtain ⟨rfl, hsz, hP, hD0, hG⟩ := hv
  subst hsz
  have hl := lv_entry av (n := maxL) hz
  rw [lg_entry_eq]
  refine body p e s m _ below meth c (va_A w s.heap.size) _ _ _ rfl B.exec B.bytes hml (atoms_spec (ws := ws) B.pre) (by rw [← ho]; exact findClass_of_methodNamed B.named) (name_of_methodNamed B.named B.method).1 hG hP hD0.self va_S.rf (fun q h => Or.inr h) hl ?_
  intro v H locs pc ls hv hP hS hd
  exact W.lret (v := v) B.exec B.bytes B.returns (fun t ht hW => ⟨⟨v, (), rfl, hv, by show va_P D vwCl w' t.heap; rw [ht]; exact hP⟩, hS.F ht⟩) hS.2.2 hd
end CUO
/-! calls -/
section CUC
variable {p : Program} {l : Launch} {e : Env} {R : Room} {s : State} {m : MethodId} {args : Array Value} {below : List Frame} {meth : Method} {c : Code} {H : Heap} {locs : List Loc} {cells slots : Nat} {Q : State → Prop}
variable {pc : Nat} {ls : Array Slot} {rest st0 : List Value} {a : Array Value} {A : Nat → Prop} {H0 : Heap} {mc ms : Nat} {D : va_G} {C : Nat → ClassId} {W0 w W1 w' : va_W} {b : Nat} {As : List Value}
theorem cu_preV {ci : Nat} {fs : List Value} {q : vw_C} (sp : cu_sp W0 w W1 w') (hG : cu_G D C s) (hP : va_P D vwCl W0 H) (hD : va_D A W0) (he : w[0]? = some (b, .inr (ci, fs))) (hc : vwCl[ci]? = some q) : PreV s H q.1 b (va_Pc (.ref b :: As) (cu_B D C w H.size)) As :=
  ⟨cu_blind, va_recv hG.1 (sp.P hP) hc he, fun U hU hW => ⟨rfl, by rw [hU], by rw [hU]; exact sp.P hP, (sp.D hD).weaken (fun _ _ _ _ => trivial), hG.warm hW⟩⟩
theorem cu_preS (sp : cu_sp W0 w W1 w') (hG : cu_G D C s) (hP : va_P D vwCl W0 H) (hD : va_D A W0) : PreS s H (va_Pc As (cu_B D C w H.size)) As :=
  ⟨cu_blind, fun U hU hW => ⟨rfl, by rw [hU], by rw [hU]; exact sp.P hP, (sp.D hD).weaken (fun _ _ _ _ => trivial), hG.warm hW⟩⟩
theorem cu_callI {val : Int32} (hr : va_Run p l e R s m args below meth c H locs cells slots mc ms (F0 m pc ls st0) rest (va_Qi (fun (r : Int32) (_ : Unit) => r = val) (fun _ t => va_P D vwCl w' t.heap) (va_A w H.size) a) (va_A w H.size)) (sp : cu_sp W0 w W1 w') (hP : va_P D vwCl W0 H) (hD : va_D A W0) (hS : va_S A H0 H locs) (hA : ∀ q : Nat, H0.size ≤ q → A q)
    (kk : ∀ (H1 : Heap) (locs1 : List Loc), va_P D vwCl W1 H1 → va_D A W1 → va_S A H0 H1 locs1 → W p l e R s m args below meth c H1 locs1 (cells + mc) (slots + ms) Q (F0 m (pc + 3) ls (.int val :: rest))) : W p l e R s m args below meth c H locs cells slots Q (F0 m pc ls st0) := by
  have hF := sp.F hD hS hA
  refine va_calli hr hS (fun q _ h => hF q h) hF (fun r u t H1 locs1 ht _ hpost hB hz hk hS1 => ?_)
  subst hpost
  rw [ht] at hB
  exact kk H1 locs1 (sp.join hP hD hk hB) (cu_D_fst sp.fst hD) hS1
theorem cu_callL {val : Int64} (hr : va_Run p l e R s m args below meth c H locs cells slots mc ms (F0 m pc ls st0) rest (va_Ql (fun (r : Int64) (_ : Unit) => r = val) (fun _ t => va_P D vwCl w' t.heap) (va_A w H.size) a) (va_A w H.size)) (sp : cu_sp W0 w W1 w') (hP : va_P D vwCl W0 H) (hD : va_D A W0) (hS : va_S A H0 H locs) (hA : ∀ q : Nat, H0.size ≤ q → A q)
    (kk : ∀ (H1 : Heap) (locs1 : List Loc), va_P D vwCl W1 H1 → va_D A W1 → va_S A H0 H1 locs1 → W p l e R s m args below meth c H1 locs1 (cells + mc) (slots + ms) Q (F0 m (pc + 3) ls (.long val :: rest))) : W p l e R s m args below meth c H locs cells slots Q (F0 m pc ls st0) := by
  have hF := sp.F hD hS hA
  refine va_calll hr hS (fun q _ h => hF q h) hF (fun r u t H1 locs1 ht _ hpost hB hz hk hS1 => ?_)
  subst hpost
  rw [ht] at hB
  exact kk H1 locs1 (sp.join hP hD hk hB) (cu_D_fst sp.fst hD) hS1
theorem cu_callV (hr : va_Run p l e R s m args below meth c H locs cells slots mc ms (F0 m pc ls st0) rest (va_Qv (fun (_ : Unit) => True) (fun _ t => va_P D vwCl w' t.heap) (va_A w H.size) a) (va_A w H.size)) (sp : cu_sp W0 w W1 w') (hP : va_P D vwCl W0 H) (hD : va_D A W0) (hS : va_S A H0 H locs) (hA : ∀ q : Nat, H0.size ≤ q → A q)
    (kk : ∀ (H1 : Heap) (locs1 : List Loc), va_P D vwCl W1 H1 → va_D A W1 → va_S A H0 H1 locs1 → W p l e R s m args below meth c H1 locs1 (cells + mc) (slots + ms) Q (F0 m (pc + 3) ls rest)) : W p l e R s m args below meth c H locs cells slots Q (F0 m pc ls st0) := by
  have hF := sp.F hD hS hA
  refine va_callv hr hS (fun q _ h => hF q h) hF (fun u t H1 locs1 ht _ hpost hB hz hk hS1 => ?_)
  rw [ht] at hB
  exact kk H1 locs1 (sp.join hP hD hk hB) (cu_D_fst sp.fst hD) hS1
end CUC
