theorem k_isW_in {x lo hi : Int32} (h : ¬ k_isW x lo hi = 0) : lo.toInt ≤ x.toInt ∧ x.toInt ≤ hi.toInt := by
  unfold k_isW at h
  by_cases h1 : x < lo
  · rw [if_pos h1] at h; exact absurd rfl h
  · rw [if_neg h1] at h
    by_cases h2 : hi < x
    · rw [if_pos h2] at h; exact absurd rfl h
    · rw [i_lt] at h1 h2
      omega
theorem k_fresh_ok {v : Int32} (h1 : 0 ≤ v.toInt) (h2 : v.toInt < 720) : k_ok (k_fresh v) := by
  unfold k_ok
  refine ⟨⟨h1, h2⟩, ?_⟩
  show (0 ≤ (0 : Int32).toInt ∧ (0 : Int32).toInt < 900) ∧ (0 ≤ (600 : Int32).toInt ∧ (600 : Int32).toInt ≤ 600) ∧ (0 ≤ (100 : Int32).toInt ∧ (100 : Int32).toInt ≤ 100) ∧ (0 ≤ (60 : Int32).toInt ∧ (60 : Int32).toInt ≤ 60) ∧ ((1 : Int32) = 0 ∨ ((1 : Int32) = 1 ∧ 1 ≤ (600 : Int32).toInt)) ∧ (20 ≤ (30 : Int32).toInt ∧ (30 : Int32).toInt ≤ 40) ∧ (20 ≤ (30 : Int32).toInt ∧ (30 : Int32).toInt ≤ 40) ∧ (-20 ≤ (0 : Int32).toInt ∧ (0 : Int32).toInt ≤ 20) ∧ (-1 ≤ (-1 : Int32).toInt ∧ (-1 : Int32).toInt < 720) ∧ (0 ≤ (0 : Int32).toInt ∧ (0 : Int32).toInt < 720)
  decide
theorem k_at_hi {N : Nat} {m : Int32} {K : Nat → Nat → Int32} {c : Nat} (hc : N ≤ c) : ∀ t : Nat, k_at N m K t c = K c
  | 0 => rfl
  | t + 1 => by
    show k_upto (k_min (m + nI t)) (k_at N m K t) N c = K c
    unfold k_upto
    rw [if_neg (by omega), k_at_hi hc t]
/-! what the calls do to a clock keeps its numbers where they must lie -/
theorem k_ok_gear {X : Nat → Int32} {a b s : Int32} (h : k_ok X) (ha : ¬ k_isW a 20 40 = 0) (hb : ¬ k_isW b 20 40 = 0) (hs : ¬ k_isW s (-20) 20 = 0) : k_ok (upd (upd (upd X 9 a) 10 b) 11 s) := by
  obtain ⟨a1, a2⟩ := k_isW_in ha
  obtain ⟨b1, b2⟩ := k_isW_in hb
  obtain ⟨s1, s2⟩ := k_isW_in hs
  have e20 : (20 : Int32).toInt = 20 := by decide
  have e40 : (40 : Int32).toInt = 40 := by decide
  have em : (-20 : Int32).toInt = -20 := by decide
  rw [e20] at a1 b1 s2
  rw [e40] at a2 b2
  rw [em] at s1
  obtain ⟨h0, q1, q2, q3, h4, h5, h9, h10, h11, h12, h13⟩ := h
  exact ⟨h0, q1, q2, q3, h4, h5, (⟨a1, a2⟩ : 20 ≤ a.toInt ∧ a.toInt ≤ 40), (⟨b1, b2⟩ : 20 ≤ b.toInt ∧ b.toInt ≤ 40), (⟨s1, s2⟩ : -20 ≤ s.toInt ∧ s.toInt ≤ 20), h12, h13⟩
theorem k_ok_set {X : Nat → Int32} {v : Int32} (h : k_ok X) (hv : ¬ k_isW v 0 719 = 0) : k_ok (upd (upd X 0 v) 1 0) := by
  obtain ⟨a1, a2⟩ := k_isW_in hv
  have e0 : (0 : Int32).toInt = 0 := by decide
  have e7 : (719 : Int32).toInt = 719 := by decide
  rw [e0] at a1
  rw [e7] at a2
  obtain ⟨h0, q1, q2, q3, h4, h5, h9, h10, h11, h12, h13⟩ := h
  exact ⟨(⟨a1, by omega⟩ : 0 ≤ v.toInt ∧ v.toInt < 720), (by decide : 0 ≤ (0 : Int32).toInt ∧ (0 : Int32).toInt < 900), q2, q3, h4, h5, h9, h10, h11, h12, h13⟩
theorem k_ok_wind {X : Nat → Int32} (h : k_ok X) : k_ok (upd (upd X 2 600) 5 1) := by
  obtain ⟨h0, q1, q2, q3, h4, h5, h9, h10, h11, h12, h13⟩ := h
  exact ⟨h0, q1, (by decide : 0 ≤ (600 : Int32).toInt ∧ (600 : Int32).toInt ≤ 600), q3, h4, (Or.inr ⟨rfl, by decide⟩ : (1 : Int32) = 0 ∨ ((1 : Int32) = 1 ∧ 1 ≤ (600 : Int32).toInt)), h9, h10, h11, h12, h13⟩
theorem k_ok_shut {X : Nat → Int32} {f t : Int32} (h : k_ok X) (hf : ¬ k_isW f (-1) 719 = 0) (ht : ¬ k_isW t 0 719 = 0) : k_ok (upd (upd X 12 f) 13 t) := by
  obtain ⟨a1, a2⟩ := k_isW_in hf
  obtain ⟨b1, b2⟩ := k_isW_in ht
  have e0 : (0 : Int32).toInt = 0 := by decide
  have em : (-1 : Int32).toInt = -1 := by decide
  have e7 : (719 : Int32).toInt = 719 := by decide
  rw [e0] at b1
  rw [em] at a1
  rw [e7] at a2 b2
  obtain ⟨h0, q1, q2, q3, h4, h5, h9, h10, h11, h12, h13⟩ := h
  exact ⟨h0, q1, q2, q3, h4, h5, h9, h10, h11, (⟨a1, by omega⟩ : -1 ≤ f.toInt ∧ f.toInt < 720), (⟨b1, by omega⟩ : 0 ≤ t.toInt ∧ t.toInt < 720)⟩
theorem k_ok_mend {X : Nat → Int32} (w : Int32) (h : k_ok X) : k_ok (k_mendK X w) := by
  have h' := h
  obtain ⟨h0, q1, q2, q3, h4, h5, h9, h10, h11, h12, h13⟩ := h
  have e0 : (0 : Int32).toInt = 0 := by decide
  unfold k_mendK
  split
  · exact ⟨h0, q1, q2, (by decide : 0 ≤ (100 : Int32).toInt ∧ (100 : Int32).toInt ≤ 100), h4, h5, h9, h10, h11, h12, h13⟩
  · split
    · exact ⟨h0, q1, q2, q3, (by decide : 0 ≤ (60 : Int32).toInt ∧ (60 : Int32).toInt ≤ 60), h5, h9, h10, h11, h12, h13⟩
    · refine ⟨h0, q1, q2, q3, h4, ?_, h9, h10, h11, h12, h13⟩
      show k_nudge X = 0 ∨ (k_nudge X = 1 ∧ 1 ≤ (X 2).toInt)
      unfold k_nudge
      split
      · split
        · exact Or.inl rfl
        · rename_i hz
          refine Or.inr ⟨rfl, ?_⟩
          rw [i_eq, e0] at hz
          omega
      · exact Or.inl rfl
