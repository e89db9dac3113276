/-! plain facts: what keeps a clock's numbers where they must lie -/
theorem k_sum_c {f g : Nat → Int32} : ∀ (N : Nat), (∀ c, c < N → f c = g c) → k_sum f N = k_sum g N
  | 0, _ => rfl
  | n + 1, h => by
    show k_sum f n + f n = k_sum g n + g n
    rw [k_sum_c n (fun c hc => h c (by omega)), h n (by omega)]
theorem k_lt6 {w : Nat} (hw : w < 11) {v : Int32} (hv : v = nI w) (h6 : ¬ v = 6) (h7 : ¬ v = 7) (h8 : ¬ v = 8) (h9 : ¬ v = 9) (h10 : ¬ v = 10) : w < 6 := by
  subst hv
  rcases Nat.lt_or_ge w 6 with h | h
  · exact h
  · have h1 : w = 6 ∨ w = 7 ∨ w = 8 ∨ w = 9 ∨ w = 10 := by omega
    rcases h1 with rfl | rfl | rfl | rfl | rfl
    · exact absurd rfl h6
    · exact absurd rfl h7
    · exact absurd rfl h8
    · exact absurd rfl h9
    · exact absurd rfl h10
theorem k_lt6c {w : Nat} (hw : w < 8) {v : Int32} (hv : v = nI w) (h0 : ¬ v = 0) (h1 : ¬ v = 1) (h2 : ¬ v = 2) (h3 : ¬ v = 3) (h4 : ¬ v = 4) (h5 : ¬ v = 5) : v = 6 ∨ v = 7 := by
  subst hv
  have h9 : w = 0 ∨ w = 1 ∨ w = 2 ∨ w = 3 ∨ w = 4 ∨ w = 5 ∨ w = 6 ∨ w = 7 := by omega
  rcases h9 with rfl | rfl | rfl | rfl | rfl | rfl | rfl | rfl
  · exact absurd rfl h0
  · exact absurd rfl h1
  · exact absurd rfl h2
  · exact absurd rfl h3
  · exact absurd rfl h4
  · exact absurd rfl h5
  · exact Or.inl rfl
  · exact Or.inr rfl
theorem k_read_lo {K : Nat → Int32} (h5 : K 5 = 0 ∨ K 5 = 1) {w : Nat} (hw : w < 6) : K w = k_read K (nI w) := by
  have h9 : w = 0 ∨ w = 1 ∨ w = 2 ∨ w = 3 ∨ w = 4 ∨ w = 5 := by omega
  rcases h9 with rfl | rfl | rfl | rfl | rfl | rfl
  · rfl
  · rfl
  · rfl
  · rfl
  · rfl
  · show K 5 = if K 5 = 0 then 0 else 1
    rcases h5 with e | e <;> rw [e] <;> decide
theorem k_read_10 (K : Nat → Int32) : k_read K 10 = if k_shutAt K (K 0) = 0 then 0 else 1 := rfl
theorem k_ok_5 {K : Nat → Int32} (h : k_ok K) : K 5 = 0 ∨ K 5 = 1 := by
  obtain ⟨-, -, -, -, -, h5, -⟩ := h
  exact h5.imp id And.left
theorem k_ok_2 {K : Nat → Int32} (h : k_ok K) (h5 : ¬ K 5 = 0) : 1 ≤ (K 2).toInt ∧ (K 2).toInt ≤ 600 := by
  obtain ⟨-, -, h2, -, -, h5', -⟩ := h
  rcases h5' with e | e
  · exact absurd e h5
  · exact ⟨e.2, h2.2⟩
theorem k_ok_3 {K : Nat → Int32} (h : k_ok K) : 0 ≤ (K 3).toInt ∧ (K 3).toInt ≤ 100 := by
  obtain ⟨-, -, -, h3, -⟩ := h
  exact h3
theorem k_ok_u {K : Nat → Int32} {k : Nat} {v : Int32} (h : k_ok K) (h6 : 6 ≤ k) (h9 : k ≤ 8) : k_ok (upd K k v) := by
  unfold k_ok
  rw [upd_ne (show (0 : Nat) ≠ k by omega), upd_ne (show (1 : Nat) ≠ k by omega), upd_ne (show (2 : Nat) ≠ k by omega), upd_ne (show (3 : Nat) ≠ k by omega), upd_ne (show (4 : Nat) ≠ k by omega), upd_ne (show (5 : Nat) ≠ k by omega), upd_ne (show (9 : Nat) ≠ k by omega), upd_ne (show (10 : Nat) ≠ k by omega), upd_ne (show (11 : Nat) ≠ k by omega), upd_ne (show (12 : Nat) ≠ k by omega), upd_ne (show (13 : Nat) ≠ k by omega)]
  exact h
/-- the rest behind the whole minutes -/
def k_rest (Y : Nat → Int32) : Int32 := Y 1 + k_adv Y - (Y 1 + k_adv Y) / 900 * 900
theorem k_turn_R (Y : Nat → Int32) : k_turn Y = k_ticks ((Y 1 + k_adv Y) / 900).toInt.toNat (upd Y 1 (k_rest Y)) := rfl
theorem k_turn_s {Y : Nat → Int32} (h : k_ok Y) : 0 ≤ (Y 1 + k_adv Y).toInt ∧ (Y 1 + k_adv Y).toInt < 2720 := by
  obtain ⟨a1, a2⟩ := k_adv_bd h
  obtain ⟨-, ⟨b1, b2⟩, -⟩ := h
  rw [i_add (by omega) (by omega)]
  omega
theorem k_rest_i {Y : Nat → Int32} (h : k_ok Y) : (k_rest Y).toInt = (Y 1 + k_adv Y).toInt % 900 := by
  obtain ⟨a1, a2⟩ := k_turn_s h
  exact i_rem a1 (by decide)
theorem k_turn_at {Y : Nat → Int32} {w : Nat} (h0 : w ≠ 0) (h1 : w ≠ 1) (h4 : w ≠ 4) (h6 : w ≠ 6) (h7 : w ≠ 7) (h8 : w ≠ 8) : k_turn Y w = Y w := by
  rw [k_turn_R, k_ticks_at h0 h4 h6 h7 h8, upd_ne h1]
theorem k_turn_1 (Y : Nat → Int32) : k_turn Y 1 = k_rest Y := by
  rw [k_turn_R, k_ticks_at (by decide) (by decide) (by decide) (by decide) (by decide), upd_s]
theorem k_turn_ok {Y : Nat → Int32} (h : k_ok Y) : k_ok (k_turn Y) := by
  have hc : k_okc (k_turn Y) := by
    rw [k_turn_R]
    exact k_ticks_ok _ _ (k_okc_u h.c (by decide) (by decide) (by decide) (by decide))
  have hr := k_rest_i h
  obtain ⟨a1, a2⟩ := k_turn_s h
  obtain ⟨h0, h1, h2, h3, h4, h5, h9, h10, h11, h12, h13⟩ := h
  obtain ⟨c0, c4, c12, c13⟩ := hc
  unfold k_ok
  rw [k_turn_1, hr, k_turn_at (w := 2) (by decide) (by decide) (by decide) (by decide) (by decide) (by decide), k_turn_at (w := 3) (by decide) (by decide) (by decide) (by decide) (by decide) (by decide), k_turn_at (w := 5) (by decide) (by decide) (by decide) (by decide) (by decide) (by decide), k_turn_at (w := 9) (by decide) (by decide) (by decide) (by decide) (by decide) (by decide), k_turn_at (w := 10) (by decide) (by decide) (by decide) (by decide) (by decide) (by decide), k_turn_at (w := 11) (by decide) (by decide) (by decide) (by decide) (by decide) (by decide)]
  exact ⟨c0, by omega, h2, h3, c4, h5, h9, h10, h11, c12, c13⟩
theorem k_ok_2u {Z : Nat → Int32} {v : Int32} (h : k_ok Z) (h1 : 1 ≤ v.toInt) (h2 : v.toInt ≤ 600) : k_ok (upd Z 2 v) := by
  obtain ⟨h0, q1, -, h3, h4, h5, h9, h10, h11, h12, h13⟩ := h
  exact ⟨h0, q1, (⟨by show 0 ≤ v.toInt; omega, h2⟩ : 0 ≤ v.toInt ∧ v.toInt ≤ 600), h3, h4, h5.imp id (fun e => ⟨e.1, h1⟩), h9, h10, h11, h12, h13⟩
theorem k_ok_25 {Z : Nat → Int32} {v : Int32} (h : k_ok Z) (h1 : 0 ≤ v.toInt) (h2 : v.toInt ≤ 600) : k_ok (upd (upd Z 2 v) 5 0) := by
  obtain ⟨h0, q1, -, h3, h4, h5, h9, h10, h11, h12, h13⟩ := h
  exact ⟨h0, q1, (⟨h1, h2⟩ : 0 ≤ v.toInt ∧ v.toInt ≤ 600), h3, h4, Or.inl rfl, h9, h10, h11, h12, h13⟩
theorem k_ok_3u {Z : Nat → Int32} {v : Int32} (h : k_ok Z) (h1 : 0 ≤ v.toInt) (h2 : v.toInt ≤ 100) : k_ok (upd Z 3 v) := by
  obtain ⟨h0, q1, q2, -, h4, h5, h9, h10, h11, h12, h13⟩ := h
  exact ⟨h0, q1, q2, (⟨h1, h2⟩ : 0 ≤ v.toInt ∧ v.toInt ≤ 100), h4, h5, h9, h10, h11, h12, h13⟩
theorem k_wear_ok {Z : Nat → Int32} {m : Int32} (h : k_ok Z) (h5 : ¬ Z 5 = 0) : k_ok (k_wear m Z) := by
  have e0 : (0 : Int32).toInt = 0 := by decide
  have e1 : (1 : Int32).toInt = 1 := by decide
  obtain ⟨b1, b2⟩ := k_ok_2 h h5
  obtain ⟨d1, d2⟩ := k_ok_3 h
  have e2 : (Z 2 - 1).toInt = (Z 2).toInt - 1 := by rw [i_sub (by rw [e1]; omega) (by rw [e1]; omega), e1]
  have e3 : (Z 3 - 1).toInt = (Z 3).toInt - 1 := by rw [i_sub (by rw [e1]; omega) (by rw [e1]; omega), e1]
  unfold k_wear k_wearO
  by_cases hp : (0 : Int32) < Z 2 - 1
  · rw [if_pos hp]
    rw [i_lt, e0, e2] at hp
    have q := k_ok_2u (v := Z 2 - 1) h (by omega) (by omega)
    split
    · split
      · exact q
      · rename_i hz
        rw [i_le, e0] at hz
        exact k_ok_3u q (by omega) (by omega)
    · exact q
  · rw [if_neg hp]
    have q := k_ok_25 (v := Z 2 - 1) h (by omega) (by omega)
    split
    · split
      · exact q
      · rename_i hz
        rw [i_le, e0] at hz
        rw [upd_comm _ _ _ (show (3 : Nat) ≠ 5 by decide)]
        exact k_ok_3u q (by omega) (by omega)
    · exact q
theorem k_min_ok {K : Nat → Int32} (m : Int32) (h : k_ok K) : k_ok (k_min m K) := by
  unfold k_min
  split
  · exact k_ok_u h (by decide) (by decide)
  · rename_i h5
    have h8 := k_ok_u (k := 8) (v := 0) h (by decide) (by decide)
    refine k_wear_ok (k_turn_ok h8) ?_
    rw [k_turn_at (w := 5) (by decide) (by decide) (by decide) (by decide) (by decide) (by decide), upd_ne (by decide)]
    exact h5
theorem k_upto_ok {N : Nat} {m : Int32} {K : Nat → Nat → Int32} (h : ∀ c, c < N → k_ok (K c)) (i : Nat) : ∀ c, c < N → k_ok (k_upto (k_min m) K i c) := by
  intro c hc
  unfold k_upto
  split
  · exact k_min_ok m (h c hc)
  · exact h c hc
theorem k_at_ok {N : Nat} {m : Int32} {K : Nat → Nat → Int32} (h : ∀ c, c < N → k_ok (K c)) : ∀ (i : Nat) (c : Nat), c < N → k_ok (k_at N m K i c)
  | 0 => h
  | i + 1 => k_upto_ok (k_at_ok h i) N
theorem k_min_5 {m : Int32} {K : Nat → Int32} (h : K 5 = 0) : upd K 8 0 = k_min m K := by unfold k_min; rw [if_pos h]
/-! the model's way through a clock's minute -/
abbrev k_body (X : Nat → Int32) : Nat → Int32 := k_call (upd (upd X 1 (X 1 + (-900))) 0 (X 0 + 1 - (X 0 + 1) / 720 * 720))
theorem k_body_tick (X : Nat → Int32) : k_body X = upd (k_tick X) 1 (X 1 + (-900)) := by
  have e : k_body X = k_tick (upd X 1 (X 1 + (-900))) := rfl
  rw [e, k_tick_1]
theorem k_loop_0 {Y : Nat → Int32} (h : k_ok Y) : 0 ≤ ((upd Y 1 (Y 1 + k_adv Y)) 1).toInt ∧ ((upd Y 1 (Y 1 + k_adv Y)) 1).toInt / 900 = (((Y 1 + k_adv Y) / 900).toInt.toNat : Int) ∧ ((upd Y 1 (Y 1 + k_adv Y)) 1).toInt % 900 = (k_rest Y).toInt ∧ k_okc (upd Y 1 (Y 1 + k_adv Y)) ∧ k_ticks ((Y 1 + k_adv Y) / 900).toInt.toNat (upd (upd Y 1 (Y 1 + k_adv Y)) 1 (k_rest Y)) = k_turn Y := by
  obtain ⟨a1, a2⟩ := k_turn_s h
  have e900 : (900 : Int32).toInt = 900 := by decide
  have ed : ((Y 1 + k_adv Y) / 900).toInt = (Y 1 + k_adv Y).toInt / 900 := by rw [i_div a1 (by decide), e900]
  refine ⟨a1, ?_, (k_rest_i h).symm, k_okc_u h.c (by decide) (by decide) (by decide) (by decide), ?_⟩
  · show (Y 1 + k_adv Y).toInt / 900 = _
    rw [ed]
    omega
  · rw [upd_uu, k_turn_R]
theorem k_loop_lt {X : Nat → Int32} {j : Nat} (h0 : 0 ≤ (X 1).toInt) (hj : (X 1).toInt / 900 = (j : Int)) : X 1 < 900 ↔ j = 0 := by
  have e900 : (900 : Int32).toInt = 900 := by decide
  rw [i_lt, e900]
  omega
theorem k_loop_s {X Z : Nat → Int32} {R : Int32} {j : Nat} (h0 : 0 ≤ (X 1).toInt) (hj : (X 1).toInt / 900 = ((j + 1 : Nat) : Int)) (hr : (X 1).toInt % 900 = R.toInt) (hc : k_okc X) (hf : k_ticks (j + 1) (upd X 1 R) = Z) : 0 ≤ ((k_body X) 1).toInt ∧ ((k_body X) 1).toInt / 900 = (j : Int) ∧ ((k_body X) 1).toInt % 900 = R.toInt ∧ k_okc (k_body X) ∧ k_ticks j (upd (k_body X) 1 R) = Z := by
  have h2 := Int32.toInt_lt (X 1)
  have e900 : (-900 : Int32).toInt = -900 := by decide
  have e1 : (X 1 + (-900)).toInt = (X 1).toInt - 900 := by rw [i_add (by rw [e900]; omega) (by rw [e900]; omega), e900]; omega
  have eb : (k_body X) 1 = X 1 + (-900) := by rw [k_body_tick, upd_s]
  rw [eb, e1]
  refine ⟨by omega, by omega, by omega, ?_, ?_⟩
  · rw [k_body_tick]
    exact k_okc_u (k_tick_ok hc) (by decide) (by decide) (by decide) (by decide)
  · rw [k_body_tick, upd_uu, ← hf]
    show k_ticks j _ = k_ticks j (k_tick (upd X 1 R))
    rw [k_tick_1]
theorem k_loop_z {X Z : Nat → Int32} {R : Int32} (h0 : 0 ≤ (X 1).toInt) (hj : (X 1).toInt / 900 = ((0 : Nat) : Int)) (hr : (X 1).toInt % 900 = R.toInt) (hf : k_ticks 0 (upd X 1 R) = Z) : X = Z := by
  rw [← hf]
  show X = upd X 1 R
  have e : R = X 1 := by rw [i_eq]; omega
  rw [e, upd_id]
theorem k_okc_body {X : Nat → Int32} (hc : k_okc X) : k_okc (upd (upd X 1 (X 1 + (-900))) 0 (X 0 + 1 - (X 0 + 1) / 720 * 720)) := k_on_ok (X := upd X 1 (X 1 + (-900))) (k_okc_u hc (by decide) (by decide) (by decide) (by decide))
