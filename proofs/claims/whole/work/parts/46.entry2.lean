set_option maxRecDepth 100000 in
theorem cu_entryG {args : Array Value} {s : State} (hts : ∀ w ∈ lw_tbl, w.before args s = true) (hgv : (Jvm.Cond.and given_1 narrow_1).before args s = true) {D : va_G} {C : Nat → ClassId} (hK : va_K D vwCl (cu_tys C) s) : cu_G D C s := by
  have hs := flat_of_before _ hgv
  have one : ∀ (k : Nat) (t : String), (Cond.stringRef RX1 k t).before args s = true → (Cond.exactly (.string RX1 k) "java/lang/String").before args s = true → ∃ a : Nat, vk_R RX1 k t a s := by
    intro k t h1 h2
    obtain ⟨a, -, -, -, h3, -⟩ := Cond.exactly_spec h2
    exact ⟨a, vk_R.of h1 h3⟩
  have n1 : ∀ q ∈ cu_nestM, Cond.methodLinkNest RX1 q.1 q.2 RX1 ∈ lw_tbl := by decide +kernel
  have n2 : ∀ q ∈ cu_nestF, Cond.fieldLinkNest RX1 q.1 RX0 q.2.1 q.2.2 RX1 ∈ lw_tbl := by decide +kernel
  have n3 : ∀ q ∈ cu_casts, Cond.castable q.1 q.2 ∈ lw_tbl := by decide +kernel
  have n4 : ∀ q ∈ cu_decls, Cond.declares q ∈ lw_tbl := by decide +kernel
  have n5 : ∀ q ∈ cu_txts, Cond.stringRef RX1 q.1 q.2 ∈ lw_tbl := by decide +kernel
  refine ⟨hK, fun q hq => va_Nw.of rfl (hts _ (n1 q hq)), fun q hq => va_Nw.of rfl (hts _ (n2 q hq)), fun q hq => va_Nw.of rfl (hts _ (n3 q hq)), fun q hq => ?_, fun q hq => ?_, fun q hq => va_Nw.of rfl (hts _ (n4 q hq)), hts (.arrayOver (.array .int)) (by decide +kernel), hts (.arrayOver (.object "CuckooShop$Clock")) (by decide +kernel)⟩
  · simp only [cu_nocasts, List.mem_cons, List.not_mem_nil, or_false] at hq
    rcases hq with rfl | rfl | rfl
    · exact va_Nc.of (hs _ (by decide +kernel))
    · exact va_Nc.of (hs _ (by decide +kernel))
    · exact va_Nc.of (hs _ (by decide +kernel))
  · have h5 := hts _ (n5 q hq)
    refine one q.1 q.2 h5 ?_
    clear h5 one n1 n2 n3 n4 n5
    simp only [cu_txts, List.mem_cons, List.not_mem_nil, or_false] at hq
    rcases hq with rfl | rfl | rfl | rfl | rfl | rfl | rfl | rfl | rfl | rfl | rfl <;> exact hs _ (by decide +kernel)
set_option maxRecDepth 100000 in
theorem cu_entryT {args : Array Value} {s : State} (hts : ∀ w ∈ lw_tbl, w.before args s = true) (hgv : (Jvm.Cond.and given_1 narrow_1).before args s = true) : cu_T (fun q => s.heap.size ≤ q) s s.heap := by
  have hs := flat_of_before _ hgv
  exact ⟨vx_Zqof (hts _ (by decide +kernel)) (hts (.initialized "java/lang/Throwable") (by decide +kernel)) (hs (.isRef (.static Bundle.tN "UNASSIGNED_STACK" Bundle.steD)) (by decide +kernel)) (fun a h => Nat.not_le.mpr h),
    vx_Zqof (hts _ (by decide +kernel)) (hts (.initialized "java/lang/Throwable") (by decide +kernel)) (hs (.isRef (.static Bundle.tN "SUPPRESSED_SENTINEL" Bundle.listD)) (by decide +kernel)) (fun a h => Nat.not_le.mpr h)⟩
