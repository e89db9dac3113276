/-- a new object's world beside the rest -/
theorem cu_joinN {D : va_G} {A : Nat → Prop} {X w W1 : va_W} {H H1 : Heap} (hP : va_P D vwCl (X ++ w) H) (hD : va_D A (X ++ w)) (hP1 : va_P D vwCl W1 H1) (hD1 : va_D (va_A w H.size) W1) (hk : ∀ q : Nat, q < H.size → ¬ va_A w H.size q → H1[q]? = H[q]?) (hF : ∀ q, va_A w H.size q → A q) : va_P D vwCl (W1 ++ X) H1 ∧ va_D A (W1 ++ X) := by
  have hX : ∀ q ∈ X, q.1 < H.size ∧ ¬ va_A w H.size q.1 := by
    intro q hq
    obtain ⟨i, hi⟩ := List.getElem?_of_mem (List.mem_append_left w hq)
    have hl := (hP i q hi).lt
    refine ⟨hl, fun z => ?_⟩
    rcases z with ⟨j, e, hj⟩ | z
    · have hn := (cu_Diff.mp hD).1
      rw [List.map_append] at hn
      exact (List.nodup_append.mp hn).2.2 q.1 (List.mem_map_of_mem hq) q.1 (List.mem_map.mpr ⟨_, List.mem_of_getElem? hj, rfl⟩) rfl
    · omega
  constructor
  · refine hP1.app (fun k q hq => ?_)
    have hm := List.mem_of_getElem? hq
    obtain ⟨i, hi⟩ := List.getElem?_of_mem (List.mem_append_left w hm)
    exact (hP i q hi).kept (hk q.1 (hX q hm).1 (hX q hm).2)
  · rw [cu_Diff] at hD hD1 ⊢
    refine ⟨?_, fun q hq => ?_⟩
    · rw [List.map_append, List.nodup_append]
      have hn := hD.1
      rw [List.map_append] at hn
      refine ⟨hD1.1, (List.nodup_append.mp hn).1, fun a ha b hb e => ?_⟩
      obtain ⟨x, hx, ex⟩ := List.mem_map.mp ha
      obtain ⟨y, hy, ey⟩ := List.mem_map.mp hb
      have h1 := hD1.2 x hx
      rw [ex, e, ← ey] at h1
      exact (hX y hy).2 h1
    · rcases List.mem_append.mp hq with h | h
      · exact hF _ (hD1.2 q h)
      · exact hD.2 q (List.mem_append_left w h)
