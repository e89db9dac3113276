/-! THE LAW'S ENTRY: what the tables give -/
set_option maxRecDepth 100000 in
theorem cu_entryK {args : Array Value} {s : State} (hts : ∀ w ∈ lw_tbl, w.before args s = true) : ∃ (D : va_G) (C : Nat → ClassId), va_K D vwCl (cu_tys C) s := by
  obtain ⟨c0, i0, k0⟩ := u_known (C := RX0) (T := TX0) (N := 14) (n := 14) hts inX0 (hts (.instantiable RX0 14) (by decide +kernel))
  obtain ⟨c1, i1, k1⟩ := u_known (C := RX1) (T := TX1) (N := 4) (n := 4) hts inX1 (hts (.instantiable RX1 4) (by decide +kernel))
  obtain ⟨c2, i2, k2⟩ := u_known (C := RX2) (T := TX2) (N := 4) (n := 4) hts inX2 (hts (.instantiable RX2 4) (by decide +kernel))
  obtain ⟨a0, kA0, comp0, f0, g0, h0⟩ := Cond.arrayClass_spec (hts (.arrayClass .int) (by decide +kernel))
  obtain ⟨a2, kA2, comp2, f2, g2, h2⟩ := Cond.arrayClass_spec (hts (.arrayClass .long) (by decide +kernel))
  obtain ⟨p1, a1, kA1, q1, r1, g1, h1, f1⟩ := Cond.arrayOver_spec (hts (.arrayOver (.object "CuckooShop$Clock")) (by decide +kernel))
  have h9 : cu_AO s := hts (.arrayOver (.array .int)) (by decide +kernel)
  unfold cu_AO Cond.before Cond.holds at h9
  simp only [Cond.value] at h9
  obtain ⟨p3, -, h9⟩ := Option.bind_eq_some_iff.mp (beq_iff_eq.mp h9)
  obtain ⟨a3, -, h9⟩ := Option.bind_eq_some_iff.mp h9
  obtain ⟨kA3, g3, h9⟩ := Option.map_eq_some_iff.mp h9
  have h3 : (∃ cc, kA3.kind = .array cc (.array .int)) ∧ s.vm.findClass ("[" ++ (FieldType.array .int).toString) = some a3 := by
    revert h9
    cases hk : kA3.kind with
    | array cc ty =>
      intro h9
      have h10 : ty = FieldType.array .int ∧ s.vm.findClass ("[" ++ (FieldType.array .int).toString) = some a3 := by simpa using h9
      exact ⟨⟨cc, by rw [h10.1]⟩, h10.2⟩
    | _ => intro h9; simp at h9
  obtain ⟨⟨cc3, h3⟩, f3⟩ := h3
  refine ⟨(fun k => match k with | 0 => c0 | 1 => c1 | _ => c2, fun k => match k with | 0 => i0 | 1 => i1 | _ => i2), fun k => match k with | 0 => a0 | 1 => a1 | 2 => a2 | _ => a3, ?_, ?_⟩
  · intro c q hq
    match c, hq with
    | 0, hq => cases hq; exact k0
    | 1, hq => cases hq; exact k1
    | 2, hq => cases hq; exact k2
    | k + 3, hq => cases hq
  · intro k q hk
    match k, hk with
    | 0, hk => cases hk; exact ⟨fun n z => ⟨fun k h => (by cases h), kA0, g0, comp0, h0⟩, f0⟩
    | 1, hk => cases hk; exact ⟨fun n z => ⟨fun k h => (by cases h), kA1, g1, p1, h1⟩, kA1, p1, g1, h1, q1, f1⟩
    | 2, hk => cases hk; exact ⟨fun n z => ⟨fun k h => (by cases h), kA2, g2, comp2, h2⟩, f2⟩
    | 3, hk => cases hk; exact ⟨fun n z => ⟨fun k h => (by cases h), kA3, g3, cc3, h3⟩, f3⟩
    | k + 4, hk => cases hk
