/-! THE LAW: what its steps stand on -/
def lw_cx (p : Program) (l : Launch) (s : State) (m : MethodId) (args : Array Value) (c : Code) (A : Nat → Prop) (H0 : Heap) (D : va_G) (C : Nat → ClassId) (sb L : Nat) (xs : Nat → Int32) : Prop :=
  p.tables.exec = Jvm.exec ∧ c.code = cL_law ∧ c.maxLocals = 26 ∧ (∀ w ∈ wsL_law, w.before args s = true) ∧ s.vm.findClass RL = some m.cls ∧ cu_G D C s ∧ cu_T A s H0 ∧ va_X sb L xs s H0 ∧ sb < H0.size ∧ ¬ A sb ∧ (∀ q : Nat, H0.size ≤ q → A q) ∧ l.stackTraces = false ∧ L ≤ 260
theorem lw_cx.drawn {p : Program} {l : Launch} {s : State} {m : MethodId} {args : Array Value} {c : Code} {A : Nat → Prop} {H0 : Heap} {D : va_G} {C : Nat → ClassId} {sb L : Nat} {xs : Nat → Int32} (X : lw_cx p l s m args c A H0 D C sb L xs) (d0 : Drawn) : lw_cx p l (s.setDrawn d0) m args c A H0 D C sb L xs := by
  obtain ⟨hx, hb, hml, hts, hown, hG, hT, hX, hsb, hsA, hA, hlf, hL⟩ := X
  exact ⟨hx, hb, hml, dr_words hts d0, hown, cu_G.same rfl hG, hT, hX, hsb, hsA, hA, hlf, hL⟩
/-- the law's rows: what each clock told -/
def cu_rw (C : Nat → ClassId) (rr : Nat → Nat) (N : Nat) (F : Nat → Nat → Int32) : va_W := cu_lst N (fun i => (rr i, .inl (C 0, 11, .inl (F i))))
abbrev cu_ro (C : Nat → ClassId) (q : Nat) (rr : Nat → Nat) (N : Nat) : va_W := [(q, .inl (C 3, N, .inr (.inr (.inr (.inr (fun i => some (rr i)))))))]
theorem cu_rw_sp {C : Nat → ClassId} {rr : Nat → Nat} {N i : Nat} {F : Nat → Nat → Int32} {f' : Nat → Int32} (h : i < N) : cu_sp (cu_rw C rr N F) [(rr i, .inl (C 0, 11, .inl (F i)))] (cu_rw C rr N (va_up F i f')) [(rr i, .inl (C 0, 11, .inl f'))] :=
  cu_lst_sp h rfl (by show (rr i, (.inl (C 0, 11, .inl (va_up F i f' i)) : va_E)) = _; rw [va_up_self]) (fun j hj => by show (rr j, (.inl (C 0, 11, .inl (va_up F i f' j)) : va_E)) = _; rw [va_up_ne _ _ hj])
theorem cu_rw_rd {C : Nat → ClassId} {rr : Nat → Nat} {N i : Nat} {F : Nat → Nat → Int32} (h : i < N) : cu_sp (cu_rw C rr N F) [(rr i, .inl (C 0, 11, .inl (F i)))] (cu_rw C rr N F) [(rr i, .inl (C 0, 11, .inl (F i)))] :=
  cu_sp.rdm (cu_lst_mem (f := fun i => (rr i, .inl (C 0, 11, .inl (F i)))) h)
theorem cu_rows_e {C : Nat → ClassId} {N : Nat} {r : Nat → Nat} {f : Nat → va_E} : va_pl ([] ++ (List.range N).map r) (vr_up f ((List.range N).map r) (.inl (C 0, (11, .inl (fun _ => 0))))) = cu_rw C r N (fun _ _ => 0) := by
  unfold va_pl cu_rw cu_lst
  rw [List.nil_append, List.map_map]
  apply List.map_congr_left
  intro i hi
  show (r i, vr_up f ((List.range N).map r) (.inl (C 0, (11, .inl (fun _ => 0)))) (r i)) = _
  rw [vr_up_in (List.mem_map_of_mem hi)]
theorem cu_zrow (c : ClassId) : Jvm.Free.Multi.innerC c 11 (defaultValue .int) = vp_cell c (11, .inl (fun _ => 0)) := by
  rw [vp_cell_i]
  show ({ cls := c, slots := Array.replicate 11 (.int 0), vm := .none } : Cell) = arrV c 11 (fun _ => .int 0)
  unfold arrV
  congr 1
theorem cu_mna {p : Program} {l : Launch} {e : Env} {R : Room} {s : State} {m : MethodId} {args : Array Value} {below : List Frame} {meth : Method} {c : Code} {H : Heap} {locs : List Loc} {cells slots : Nat} {Q : State → Prop} {cc : ByteArray} {pc : Nat} {ls : Array Slot} {rest : List Value} {D : va_G} {C : Nat → ClassId} {A : Nat → Prop} {ws : va_W} {H0 : Heap} {own : String} {index : Nat}
    (hexec : p.tables.exec = Jvm.exec) (hb : c.code = cc) (hown : s.vm.findClass own = some m.cls) (hclink : (Cond.classLink own index "[[I").before args s = true) (hG : cu_G D C s) (harr : (Cond.arrayClass .int).before args s = true) (hP : va_P D vwCl ws H) (hD : va_D A ws) (hS : va_S A H0 H locs) (hA : ∀ q, H0.size ≤ q → A q) {N : Nat} (hN : N ≤ 10)
    (hcells : cells + (1 + N) ≤ R.cells) (hslots : slots + (N + N * 11) ≤ R.slots) (hdg : decode cc pc = .ok (.multianewarray index 2, 4))
    (kk : ∀ (q : Nat) (r : Nat → Nat) (H1 : Heap), va_P D vwCl (ws ++ (cu_ro C q r N ++ cu_rw C r N (fun _ _ => 0))) H1 → va_D A (ws ++ (cu_ro C q r N ++ cu_rw C r N (fun _ _ => 0))) → va_S A H0 H1 locs →
      W p l e R s m args below meth c H1 locs (cells + 1 + N) (slots + N + N * 11) Q (F0 m (pc + 4) ls (.ref q :: rest))) : W p l e R s m args below meth c H locs cells slots Q (F0 m pc ls (.int 11 :: .int (nI N) :: rest)) := by
  have hK := hG.1
  have e1 : ("[" ++ (FieldType.array .int).toString) = "[[I" := by decide
  have h3 : s.vm.findClass ("[" ++ (FieldType.array .int).toString) = some (C 3) := (hK.2 3 (C 3, .array .int) rfl).2
  have h0 : s.vm.findClass (FieldType.array .int).toString = some (C 0) := (hK.2 0 (C 0, .int) rfl).2
  refine va_mna (X := ws) (L := []) (f := fun _ => .inl (C 0, (11, .inl (fun _ => 0)))) (ty := .int) (cy := C 0) (z := (11, .inl (fun _ => 0))) hexec hb hown (by rw [e1]; exact hclink) hG.2.2.2.2.2.2.2.1.use harr h0 hK (by rw [show va_pl [] (fun _ => Sum.inl (C 0, (11, .inl (fun _ => 0)))) = ([] : va_W) from rfl, List.append_nil]; exact hP) (by rw [show va_pl [] (fun _ => Sum.inl (C 0, (11, .inl (fun _ => 0)))) = ([] : va_W) from rfl, List.append_nil]; exact hD) hS hA (n := nI N) (k := 11) (N' := N) (K' := 11) (nI_nneg (by omega)) (by decide) (nI_clamp (by omega)) (by decide) (by omega) (Nat.le_of_ble_eq_true rfl) (Nat.le_of_ble_eq_true rfl) rfl rfl hcells hslots cu_zrow hdg (fun q r cA H1 _ _ hK1 hP1 hD1 hS1 => ?_)
  have h4 : s.vm.findClass ("[" ++ (FieldType.array .int).toString) = some cA := (hK1.2 4 (cA, .array .int) rfl).2
  cases Option.some.inj (h4.symm.trans h3)
  rw [cu_rows_e] at hP1 hD1
  rw [List.append_assoc] at hP1 hD1
  have sp := cu_sp.inR (X := ws) (cu_sp.inL (Y := cu_rw C r N (fun _ _ => 0)) (cu_sp.all (W0 := [(q, .inl (C 3, N, .inr (.inr (.inr (.inr (fun i => if i < N then some (r i) else none))))))]) (W1 := cu_ro C q r N) rfl))
  exact kk q r H1 (cu_P_ext sp (cu_Diff.mp hD1).1 hP1 (cu_cell_extq (fun j hj => by rw [if_pos hj]))) (cu_D_fst sp.fst hD1) hS1
theorem k_s16' {N : Nat} {m : Int32} {K : Nat → Nat → Int32} : k_sum (fun c => k_min m (K c) 7 - K c 7) N = k_all N (k_nx N m K) 8 - k_all N K 8 := by
  rw [← k_s16 (m := m)]
  exact k_sum_c N (fun c hc => by rw [k_nx_c hc])
theorem k_s17' {N : Nat} {m : Int32} {K : Nat → Nat → Int32} : k_sum (fun c => k_read (k_min m (K c)) 5 * k_adv (k_min m (K c))) N = k_advSum N (k_nx N m K) := by
  rw [← k_s17]
  exact k_sum_c N (fun c hc => by rw [k_nx_c hc])
theorem k_r5 {X : Nat → Int32} : k_read X 5 = 0 ↔ X 5 = 0 := by
  show (if X 5 = 0 then 0 else 1) = (0 : Int32) ↔ _
  by_cases h : X 5 = 0
  · rw [if_pos h]; exact ⟨fun _ => h, fun _ => rfl⟩
  · rw [if_neg h]; exact ⟨fun z => absurd z (by decide), fun z => absurd z h⟩
theorem k_c6' {m : Int32} {X : Nat → Int32} : (if k_next m X = 1 then (1 : Int32) else 0) = if k_min m X 8 ≤ 0 then 0 else 1 := by
  by_cases h : k_min m X 8 ≤ 0
  · rw [if_pos h, if_neg (fun z => k_c6.mp z h)]
  · rw [if_neg h, if_pos (k_c6.mpr h)]
