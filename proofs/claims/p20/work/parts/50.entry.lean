/-! THE LAW'S ENTRY: what the tables give -/
set_option maxRecDepth 100000 in
theorem cu_entryK {args : Array Value} {s : State} (hts : ∀ w ∈ lw_tbl, w.before args s = true) : ∃ (D : va_G) (C : Nat → ClassId), va_K D vwCl (cu_tys C) s := by
  obtain ⟨c0, i0, k0⟩ := u_known (C := RX0) (T := TX0) (N := 14) (n := 14) hts inX0 (hts (.instantiable RX0 14) (by decide +kernel))
  obtain ⟨c1, i1, k1⟩ := u_known (C := RX1) (T := TX1) (N := 4) (n := 4) hts inX1 (hts (.instantiable RX1 4) (by decide +kernel))
  obtain ⟨c2, i2, k2⟩ := u_known (C := RX2) (T := TX2) (N := 14) (n := 14) hts inX2 (hts (.instantiable RX2 14) (by decide +kernel))
  obtain ⟨c3, i3, k3⟩ := u_known (C := RX3) (T := TX3) (N := 2) (n := 2) hts inX3 (hts (.instantiable RX3 2) (by decide +kernel))
  obtain ⟨a0, kA0, comp0, f0, g0, h0⟩ := Cond.arrayClass_spec (hts (.arrayClass .int) (by decide +kernel))
  obtain ⟨p1, a1, kA1, q1, r1, g1, h1, f1⟩ := Cond.arrayOver_spec (hts (.arrayOver (.object "CuckooShop$Clock")) (by decide +kernel))
  obtain ⟨p2, a2, kA2, q2, r2, g2, h2, f2⟩ := Cond.arrayOver_spec (hts (.arrayOver (.object "CuckooShopLaw$Clock")) (by decide +kernel))
  have h9 : cu_AO s := hts (.arrayOver (.array .int)) (by decide +kernel)
  unfold cu_AO Cond.before Cond.holds at h9
  simp only [Cond.value] at h9
  obtain ⟨p3, -, h9⟩ := Option.bind_eq_some_iff.mp (beq_iff_eq.mp h9)
  obtain ⟨a3, -, h9⟩ := Option.bind_eq_some_iff.mp h9
  obtain ⟨kA3, g3, h9⟩ := Option.map_eq_some_iff.mp h9
  have h3 : (∃ cc, kA3.kind = .array cc (.array .int)) ∧ s.vm.findClass ("[" ++ (FieldType.array .int).toString) = some a3 := by
    revert h9
    cases hk : kA3.kind with
    | array cc ty =>
      intro h9
      have h10 : ty = FieldType.array .int ∧ s.vm.findClass ("[" ++ (FieldType.array .int).toString) = some a3 := by simpa using h9
      exact ⟨⟨cc, by rw [h10.1]⟩, h10.2⟩
    | _ => intro h9; simp at h9
  obtain ⟨⟨cc3, h3⟩, f3⟩ := h3
  refine ⟨(fun k => match k with | 0 => c0 | 1 => c1 | 2 => c2 | _ => c3, fun k => match k with | 0 => i0 | 1 => i1 | 2 => i2 | _ => i3), fun k => match k with | 0 => a0 | 1 => a1 | 2 => a2 | _ => a3, ?_, ?_⟩
  · intro c q hq
    match c, hq with
    | 0, hq => cases hq; exact k0
    | 1, hq => cases hq; exact k1
    | 2, hq => cases hq; exact k2
    | 3, hq => cases hq; exact k3
    | k + 4, hq => cases hq
  · intro k q hk
    match k, hk with
    | 0, hk => cases hk; exact ⟨fun n z => ⟨fun k h => (by cases h), kA0, g0, comp0, h0⟩, f0⟩
    | 1, hk => cases hk; exact ⟨fun n z => ⟨fun k h => (by cases h), kA1, g1, p1, h1⟩, kA1, p1, g1, h1, q1, f1⟩
    | 2, hk => cases hk; exact ⟨fun n z => ⟨fun k h => (by cases h), kA2, g2, p2, h2⟩, kA2, p2, g2, h2, q2, f2⟩
    | 3, hk => cases hk; exact ⟨fun n z => ⟨fun k h => (by cases h), kA3, g3, cc3, h3⟩, f3⟩
    | k + 4, hk => cases hk
set_option maxRecDepth 100000 in
theorem cu_entryG {args : Array Value} {s : State} (hts : ∀ w ∈ lw_tbl, w.before args s = true) (hgv : (Jvm.Cond.and given_1 narrow_1).before args s = true) {D : va_G} {C : Nat → ClassId} (hK : va_K D vwCl (cu_tys C) s) : cu_G D C s := by
  have hs := flat_of_before _ hgv
  have one : ∀ (k : Nat) (t : String), (Cond.stringRef RX1 k t).before args s = true → (Cond.exactly (.string RX1 k) "java/lang/String").before args s = true → ∃ a : Nat, vk_R RX1 k t a s := by
    intro k t h1 h2
    obtain ⟨a, -, -, -, h3, -⟩ := Cond.exactly_spec h2
    exact ⟨a, vk_R.of h1 h3⟩
  have n1 : ∀ q ∈ cu_nestM, Cond.methodLinkNest RX1 q.1 q.2 RX1 ∈ lw_tbl := by decide +kernel
  have n2 : ∀ q ∈ cu_nestF, Cond.fieldLinkNest RX1 q.1 RX0 q.2.1 q.2.2 RX1 ∈ lw_tbl := by decide +kernel
  have n6 : ∀ q ∈ cu_nestL, Cond.methodLinkNest q.1 q.2.1 q.2.2 RL ∈ lw_tbl := by decide +kernel
  have n3 : ∀ q ∈ cu_casts, Cond.castable q.1 q.2 ∈ lw_tbl := by decide +kernel
  have n4 : ∀ q ∈ cu_decls, Cond.declares q ∈ lw_tbl := by decide +kernel
  have n5 : ∀ q ∈ cu_txts, Cond.stringRef RX1 q.1 q.2 ∈ lw_tbl := by decide +kernel
  refine ⟨hK, fun q hq => va_Nw.of rfl (hts _ (n1 q hq)), fun q hq => va_Nw.of rfl (hts _ (n2 q hq)), fun q hq => va_Nw.of rfl (hts _ (n3 q hq)), fun q hq => va_Nw.of rfl (hts _ (n6 q hq)), fun q hq => ?_, fun q hq => va_Nw.of rfl (hts _ (n4 q hq)), hts (.arrayOver (.array .int)) (by decide +kernel), hts (.arrayOver (.object "CuckooShop$Clock")) (by decide +kernel), hts (.arrayOver (.object "CuckooShopLaw$Clock")) (by decide +kernel)⟩
  · have h5 := hts _ (n5 q hq)
    refine one q.1 q.2 h5 ?_
    clear h5 one n1 n2 n3 n4 n5 n6
    simp only [cu_txts, List.mem_cons, List.not_mem_nil, or_false] at hq
    rcases hq with rfl | rfl | rfl | rfl | rfl | rfl | rfl | rfl | rfl | rfl | rfl <;> exact hs _ (by decide +kernel)
set_option maxRecDepth 100000 in
theorem cu_entryT {args : Array Value} {s : State} (hts : ∀ w ∈ lw_tbl, w.before args s = true) (hgv : (Jvm.Cond.and given_1 narrow_1).before args s = true) : cu_T (fun q => s.heap.size ≤ q) s s.heap := by
  have hs := flat_of_before _ hgv
  exact ⟨vx_Zqof (hts _ (by decide +kernel)) (hts (.initialized "java/lang/Throwable") (by decide +kernel)) (hs (.isRef (.static Bundle.tN "UNASSIGNED_STACK" Bundle.steD)) (by decide +kernel)) (fun a h => Nat.not_le.mpr h),
    vx_Zqof (hts _ (by decide +kernel)) (hts (.initialized "java/lang/Throwable") (by decide +kernel)) (hs (.isRef (.static Bundle.tN "SUPPRESSED_SENTINEL" Bundle.listD)) (by decide +kernel)) (fun a h => Nat.not_le.mpr h)⟩
