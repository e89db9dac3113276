/-! what holds between the law's steps: N clocks K, the minute mn, at most T of them -/
def k_in (N : Nat) (mn : Int32) (K : Nat → Nat → Int32) (T : Nat) : Prop :=
  N ≤ 10 ∧ (∀ i, N ≤ i → K i = k_new (fun _ => 0)) ∧ (∀ i, i < N → k_ok (K i) ∧ 0 ≤ (K i 7).toInt ∧ (K i 7).toInt ≤ 36 * mn.toInt) ∧ 0 ≤ mn.toInt ∧ mn.toInt ≤ (T : Int)
theorem k_in_ok {N : Nat} {mn : Int32} {K : Nat → Nat → Int32} {T i : Nat} (I : k_in N mn K T) (hi : i < N) : k_ok (K i) := (I.2.2.1 i hi).1
theorem k_in_oks {N : Nat} {mn : Int32} {K : Nat → Nat → Int32} {T : Nat} (I : k_in N mn K T) : ∀ c, c < N → k_ok (K c) := fun _ h => k_in_ok I h
theorem k_in_okc {N : Nat} {mn : Int32} {K : Nat → Nat → Int32} {T : Nat} (I : k_in N mn K T) : ∀ c, c < N → k_okc (K c) := fun _ h => (k_in_ok I h).c
theorem k_in_5 {N : Nat} {mn : Int32} {K : Nat → Nat → Int32} {T : Nat} (I : k_in N mn K T) : ∀ c, c < N → K c 5 = 0 ∨ K c 5 = 1 := fun _ h => k_ok_5 (k_in_ok I h)
theorem k_in_put {N : Nat} {mn : Int32} {K : Nat → Nat → Int32} {T i : Nat} {X : Nat → Int32} (I : k_in N mn K T) (hi : i < N) (hX : k_ok X) (h7 : X 7 = K i 7) : k_in N mn (va_up K i X) T := by
  obtain ⟨h1, h2, h3, h4, h5⟩ := I
  refine ⟨h1, fun j hj => ?_, fun j hj => ?_, h4, h5⟩
  · rw [va_up_ne _ _ (show j ≠ i by omega)]; exact h2 j hj
  · by_cases e : j = i
    · subst e
      rw [va_up_self, h7]
      exact ⟨hX, (h3 j hj).2⟩
    · rw [va_up_ne _ _ e]; exact h3 j hj
theorem k_in_come {N : Nat} {mn : Int32} {K : Nat → Nat → Int32} {T : Nat} {v : Int32} (I : k_in N mn K T) (hN : N < 10) (hv : 0 ≤ v.toInt ∧ v.toInt < 720) : k_in (N + 1) mn (va_up K N (upd (upd (K N) 0 v) 1 0)) T := by
  obtain ⟨h1, h2, h3, h4, h5⟩ := I
  have eK : upd (upd (K N) 0 v) 1 0 = k_fresh v := by rw [h2 N (Nat.le_refl N)]; rfl
  rw [eK]
  refine ⟨by omega, fun j hj => ?_, fun j hj => ?_, h4, h5⟩
  · rw [va_up_ne _ _ (show j ≠ N by omega)]; exact h2 j (by omega)
  · by_cases e : j = N
    · subst e
      rw [va_up_self]
      refine ⟨k_fresh_ok hv.1 hv.2, ?_⟩
      have e7 : (k_fresh v 7).toInt = 0 := by show (0 : Int32).toInt = 0; decide
      rw [e7]
      omega
    · rw [va_up_ne _ _ e]; exact h3 j (by omega)
theorem k_bel720 (v : Int32) : 0 ≤ (k_bel v 720).toInt ∧ (k_bel v 720).toInt < 720 := k_bel_bd (n := 720) (by decide)
theorem k_bel3 (v : Int32) : k_bel v 3 = 0 ∨ k_bel v 3 = 1 ∨ k_bel v 3 = 2 := by
  have h := k_bel_bd (v := v) (n := 3) (by decide)
  have e3 : (3 : Int32).toInt = 3 := by decide
  have e2 : (2 : Int32).toInt = 2 := by decide
  have e1 : (1 : Int32).toInt = 1 := by decide
  have e0 : (0 : Int32).toInt = 0 := by decide
  rw [e3] at h
  simp only [i_eq, e0, e1, e2]
  omega
theorem k_bd20 {x v : Int32} (h : x = 20 + k_bel v 21) : 20 ≤ x.toInt ∧ x.toInt ≤ 40 := by
  have h9 := k_bel_bd (v := v) (n := 21) (by decide)
  have e21 : (21 : Int32).toInt = 21 := by decide
  have e20 : (20 : Int32).toInt = 20 := by decide
  rw [e21] at h9
  rw [h, i_add (by rw [e20]; omega) (by rw [e20]; omega), e20]
  omega
theorem k_bds {x v : Int32} (h : x = k_bel v 41 - 20) : -20 ≤ x.toInt ∧ x.toInt ≤ 20 := by
  have h9 := k_bel_bd (v := v) (n := 41) (by decide)
  have e41 : (41 : Int32).toInt = 41 := by decide
  have e20 : (20 : Int32).toInt = 20 := by decide
  rw [e41] at h9
  rw [h, i_sub (by rw [e20]; omega) (by rw [e20]; omega), e20]
  omega
theorem k_bz {x : Int32} (h : 20 ≤ x.toInt) : ¬ x = 0 := fun e => by rw [e] at h; exact absurd h (by decide)
theorem k_oE_n {v : Int32} (h : v = 0 ∨ v = 1 ∨ v = 2) : k_oE v = none := by
  rcases h with rfl | rfl | rfl <;> decide
theorem k_nn {x : Int32} {n : Int} (h : 0 ≤ x.toInt ∧ x.toInt < n) : 0 ≤ x := by
  rw [i_le, e_0]
  exact h.1
theorem k_n10 {N : Nat} (hN : N ≤ 10) (h : ¬ nI N = 10) : N < 10 := by
  rcases Nat.lt_or_ge N 10 with h1 | h1
  · exact h1
  · exact absurd (show nI N = 10 by rw [show N = 10 by omega]; rfl) h
theorem k_nz {N : Nat} (h0 : 0 < N) (h1 : N < 2147483648) : ¬ nI N = 0 := fun e => by
  have h2 := nI_toInt (n := N) h1
  rw [e, e_0] at h2
  omega
theorem k_nudge_a {K : Nat → Int32} (h : ¬ K 5 = 0) : k_nudge K = 0 := by unfold k_nudge; rw [if_neg h]
theorem k_nudge_b {K : Nat → Int32} (h : K 5 = 0) (hok : k_ok K) (h2 : K 2 ≤ 0) : k_nudge K = 0 := by
  obtain ⟨-, -, ⟨b1, -⟩, -⟩ := hok
  unfold k_nudge
  rw [if_pos h, if_pos (by rw [i_eq, e_0]; rw [i_le, e_0] at h2; omega)]
theorem k_nudge_c {K : Nat → Int32} (h : K 5 = 0) (h2 : ¬ K 2 ≤ 0) : k_nudge K = 1 := by
  unfold k_nudge
  rw [if_pos h, if_neg (fun z => h2 (by rw [z]; decide))]
theorem k_mendK_2 (K : Nat → Int32) : k_mendK K 2 = upd K 5 (k_nudge K) := rfl
theorem k_mendK_7 (K : Nat → Int32) (w : Int32) : k_mendK K w 7 = K 7 := by
  unfold k_mendK
  split
  · rfl
  · split <;> rfl
theorem k_wh1 {w : Int32} (h : w = 0 ∨ w = 1 ∨ w = 2) (h0 : ¬ w = 0) (h2 : ¬ w = 2) : w = 1 := by
  rcases h with e | e | e
  · exact absurd e h0
  · exact e
  · exact absurd e h2
theorem k_isW_nz {x lo hi : Int32} (h1 : lo.toInt ≤ x.toInt) (h2 : x.toInt ≤ hi.toInt) : ¬ k_isW x lo hi = 0 := by rw [k_isW_n h1 h2]; decide
theorem k_ok_gearN {X : Nat → Int32} {a b s : Int32} (h : k_ok X) (ha : 20 ≤ a.toInt ∧ a.toInt ≤ 40) (hb : 20 ≤ b.toInt ∧ b.toInt ≤ 40) (hs : -20 ≤ s.toInt ∧ s.toInt ≤ 20) : k_ok (upd (upd (upd X 9 a) 10 b) 11 s) := by
  have e20 : (20 : Int32).toInt = 20 := by decide
  have e40 : (40 : Int32).toInt = 40 := by decide
  have em : (-20 : Int32).toInt = -20 := by decide
  exact k_ok_gear h (k_isW_nz (by omega) (by omega)) (k_isW_nz (by omega) (by omega)) (k_isW_nz (by omega) (by omega))
theorem k_ok_setN {X : Nat → Int32} {v : Int32} (h : k_ok X) (hv : 0 ≤ v.toInt ∧ v.toInt < 720) : k_ok (upd (upd X 0 v) 1 0) :=
  k_ok_set h (k_isW_nz (by rw [e_0]; omega) (by rw [e_719]; omega))
theorem k_ok_shutN {X : Nat → Int32} {f t : Int32} (h : k_ok X) (hf : f = -1 ∨ (0 ≤ f.toInt ∧ f.toInt < 720)) (ht : 0 ≤ t.toInt ∧ t.toInt < 720) : k_ok (upd (upd X 12 f) 13 t) := by
  have em : (-1 : Int32).toInt = -1 := by decide
  refine k_ok_shut h (k_isW_nz ?_ ?_) (k_isW_nz (by rw [e_0]; omega) (by rw [e_719]; omega))
  · rcases hf with e | e
    · rw [e]; omega
    · rw [em]; omega
  · rcases hf with e | e
    · rw [e]; decide
    · rw [e_719]; omega
