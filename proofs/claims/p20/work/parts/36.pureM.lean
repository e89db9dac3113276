/-! WHAT A MINUTE DOES, in the law's words -/
theorem k_ticks_s : ∀ (j : Nat) (X : Nat → Int32), k_ticks (j + 1) X = k_tick (k_ticks j X)
  | 0, _ => rfl
  | j + 1, X => by
    show k_ticks (j + 1) (k_tick X) = k_tick (k_ticks j (k_tick X))
    exact k_ticks_s j (k_tick X)
/-- the time i minutes behind s -/
def k_pos (s : Int32) (i : Nat) : Int32 := s + nI i - (s + nI i) / 720 * 720
theorem k_pos_i {s : Int32} {i : Nat} (h1 : 0 ≤ s.toInt) (h2 : s.toInt < 720) (hi : i < 100) : (k_pos s i).toInt = (s.toInt + i) % 720 := by
  have ei := nI_toInt (n := i) (by omega)
  have ea : (s + nI i).toInt = s.toInt + i := by rw [i_add (by rw [ei]; omega) (by rw [ei]; omega), ei]
  unfold k_pos
  rw [i_rem (by rw [ea]; omega) (by decide), ea, e_720]
theorem k_pos_0 {s : Int32} (h1 : 0 ≤ s.toInt) (h2 : s.toInt < 720) : k_pos s 0 = s := by
  rw [i_eq, k_pos_i h1 h2 (by omega)]
  omega
theorem k_pos_s {s : Int32} {i : Nat} (h1 : 0 ≤ s.toInt) (h2 : s.toInt < 720) (hi : i < 99) : k_pos s i + 1 - (k_pos s i + 1) / 720 * 720 = k_pos s (i + 1) := by
  have e := k_pos_i h1 h2 (i := i) (by omega)
  have e1 : (k_pos s i + 1).toInt = (s.toInt + i) % 720 + 1 := by rw [i_add (by rw [e, e_1]; omega) (by rw [e, e_1]; omega), e, e_1]
  rw [i_eq, k_pos_i h1 h2 (by omega), i_rem (by rw [e1]; omega) (by decide), e1, e_720]
  omega
/-- what is due at a time, if it is not shut off -/
def k_dueAt (K : Nat → Int32) (t : Int32) : Int32 := if k_shutAt K t = 0 then k_due t else 0
def k_dues (K : Nat → Int32) (j : Nat) : Int32 := k_sum (fun i => k_dueAt K (k_pos (K 0) (i + 1))) j
theorem k_dueAt_bd {K : Nat → Int32} {t : Int32} (h1 : 0 ≤ t.toInt) (h2 : t.toInt < 720) : 0 ≤ (k_dueAt K t).toInt ∧ (k_dueAt K t).toInt ≤ 12 := by
  unfold k_dueAt
  split
  · exact k_due_bd h1 h2
  · decide
theorem k_tick_w {X : Nat → Int32} (hc : k_okc X) : ∃ d w : Int32, w = k_dueAt X (k_on X 0) ∧ 0 ≤ d.toInt ∧ d.toInt ≤ w.toInt ∧ k_tick X 4 = X 4 - d ∧ k_tick X 6 = X 6 + d ∧ k_tick X 8 = X 8 + d ∧ k_tick X 7 = X 7 + (w - d) ∧ (¬ w = d → k_tick X 4 = 0) := by
  have hY := k_on_ok hc
  obtain ⟨⟨s1, s2⟩, ⟨b1, b2⟩, -⟩ := hY
  have eS : k_shutAt (k_on X) (k_on X 0) = k_shutAt X (k_on X 0) := rfl
  have e4 : k_on X 4 = X 4 := rfl
  rw [e4] at b1 b2
  obtain ⟨u1, u2⟩ := k_due_bd s1 s2
  unfold k_dueAt k_tick
  rw [eS]
  by_cases hs : k_shutAt X (k_on X 0) = 0
  · rw [if_pos hs, if_pos hs]
    refine ⟨if X 4 < k_due (k_on X 0) then X 4 else k_due (k_on X 0), k_due (k_on X 0), rfl, ?_, ?_, rfl, rfl, rfl, rfl, ?_⟩
    · split <;> omega
    · split
      · rename_i h; rw [i_lt] at h; omega
      · omega
    · intro hn
      by_cases h : X 4 < k_due (k_on X 0)
      · show X 4 - (if X 4 < k_due (k_on X 0) then X 4 else k_due (k_on X 0)) = 0
        rw [if_pos h, i_eq, i_sub (by omega) (by omega), e_0]
        omega
      · rw [if_neg h] at hn
        exact absurd rfl hn
  · rw [if_neg hs, if_neg hs]
    refine ⟨0, 0, rfl, by decide, by decide, ?_, ?_, ?_, ?_, fun h => absurd rfl h⟩
    · show X 4 = X 4 - 0; simp
    · show X 6 = X 6 + 0; simp
    · show X 8 = X 8 + 0; simp
    · show X 7 = X 7 + (0 - 0); simp
theorem k_ticks_w {X : Nat → Int32} (hc : k_okc X) : ∀ (j : Nat), j ≤ 3 → ∃ d : Int32, 0 ≤ d.toInt ∧ d.toInt ≤ (k_dues X j).toInt ∧ 0 ≤ (k_dues X j).toInt ∧ (k_dues X j).toInt ≤ 12 * j ∧ k_ticks j X 4 = X 4 - d ∧ k_ticks j X 6 = X 6 + d ∧ k_ticks j X 8 = X 8 + d ∧ k_ticks j X 7 = X 7 + (k_dues X j - d) ∧ (¬ k_dues X j = d → k_ticks j X 4 = 0) ∧ k_ticks j X 0 = k_pos (X 0) j ∧ k_okc (k_ticks j X) := by
  have hc' := hc
  obtain ⟨⟨a1, a2⟩, -⟩ := hc'
  intro j
  induction j with
  | zero =>
    intro _
    refine ⟨0, by decide, by show (0 : Int32).toInt ≤ (0 : Int32).toInt; decide, by show 0 ≤ (0 : Int32).toInt; decide, by show (0 : Int32).toInt ≤ 12 * ((0 : Nat) : Int); decide, ?_, ?_, ?_, ?_, fun h => absurd rfl h, (k_pos_0 a1 a2).symm, hc⟩
    · show X 4 = X 4 - 0; simp
    · show X 6 = X 6 + 0; simp
    · show X 8 = X 8 + 0; simp
    · show X 7 = X 7 + (0 - 0); simp
  | succ j ih =>
    intro hj
    obtain ⟨d, d0, d1, q0, q1, h4, h6, h8, h7, hz, h0, hok⟩ := ih (by omega)
    obtain ⟨d', w, ew, p0, p1, g4, g6, g8, g7, gz⟩ := k_tick_w hok
    have ep : k_on (k_ticks j X) 0 = k_pos (X 0) (j + 1) := by
      show k_ticks j X 0 + 1 - (k_ticks j X 0 + 1) / 720 * 720 = _
      rw [h0]
      exact k_pos_s a1 a2 (by omega)
    have es : ∀ t, k_shutAt (k_ticks j X) t = k_shutAt X t := by
      intro t
      unfold k_shutAt
      rw [k_ticks_at (w := 12) (by decide) (by decide) (by decide) (by decide) (by decide), k_ticks_at (w := 13) (by decide) (by decide) (by decide) (by decide) (by decide)]
    have ew' : w = k_dueAt X (k_pos (X 0) (j + 1)) := by
      rw [ew, ep]
      unfold k_dueAt
      rw [es]
    have eD : k_dues X (j + 1) = k_dues X j + w := by rw [ew']; rfl
    have hb := k_pos_i a1 a2 (i := j + 1) (by omega)
    have hw := k_dueAt_bd (K := X) (t := k_pos (X 0) (j + 1)) (by rw [hb]; omega) (by rw [hb]; omega)
    rw [← ew'] at hw
    have iD : (k_dues X j + w).toInt = (k_dues X j).toInt + w.toInt := i_add (by omega) (by omega)
    have id' : (d + d').toInt = d.toInt + d'.toInt := i_add (by omega) (by omega)
    rw [k_ticks_s]
    refine ⟨d + d', by rw [id']; omega, by rw [eD, iD, id']; omega, by rw [eD, iD]; omega, by rw [eD, iD]; omega, ?_, ?_, ?_, ?_, ?_, ?_, k_tick_ok hok⟩
    · rw [g4, h4, i_eq, Int32.sub_sub]
    · rw [g6, h6, Int32.add_assoc]
    · rw [g8, h8, Int32.add_assoc]
    · rw [g7, h7, eD]
      have : ∀ a b c d e : Int32, a + (b - c) + (d - e) = a + (b + d - (c + e)) := by intro a b c d e; grind
      exact this _ _ _ _ _
    · intro hn
      by_cases hw2 : w = d'
      · have h9 : ¬ k_dues X j = d := fun z => hn (by rw [eD, z, hw2])
        have h10 := hz h9
        rw [g4, h10]
        obtain ⟨-, ⟨b1, b2⟩, -⟩ := k_tick_ok hok
        rw [g4, h10] at b1
        have h11 : (0 - d').toInt = 0 - d'.toInt := by rw [i_sub (by rw [e_0]; omega) (by rw [e_0]; omega), e_0]
        rw [h11] at b1
        rw [i_eq, h11, e_0]
        omega
      · exact gz hw2
    · show k_tick (k_ticks j X) 0 = _
      rw [k_tick_call, k_call_at _ (by decide) (by decide) (by decide) (by decide)]
      exact ep
/-- how many minutes the hands go on -/
def k_q (K : Nat → Int32) : Nat := ((K 1 + k_adv K) / 900).toInt.toNat
theorem k_q_bd {K : Nat → Int32} (h : k_ok K) : (K 1 + k_adv K) / 900 = nI (k_q K) ∧ k_q K ≤ 3 := by
  obtain ⟨a1, a2⟩ := k_turn_s h
  have e900 : (900 : Int32).toInt = 900 := by decide
  have ed : ((K 1 + k_adv K) / 900).toInt = (K 1 + k_adv K).toInt / 900 := by rw [i_div a1 (by decide), e900]
  have hq : k_q K ≤ 3 := by unfold k_q; rw [ed]; omega
  refine ⟨?_, hq⟩
  rw [i_eq, nI_toInt (by omega)]
  unfold k_q
  rw [ed]
  omega
/-- a minute of a clock that goes -/
theorem k_min_go {m : Int32} {K : Nat → Int32} (h : k_ok K) (h5 : ¬ K 5 = 0) : ∃ d : Int32, 0 ≤ d.toInt ∧ d.toInt ≤ (k_dues K (k_q K)).toInt ∧ (k_dues K (k_q K)).toInt ≤ 36 ∧
    k_min m K 4 = K 4 - d ∧ k_min m K 6 = K 6 + d ∧ k_min m K 8 = d ∧ k_min m K 7 = K 7 + (k_dues K (k_q K) - d) ∧ (¬ k_dues K (k_q K) = d → k_min m K 4 = 0) ∧
    k_min m K 0 = k_pos (K 0) (k_q K) ∧ k_min m K 1 = K 1 + k_adv K - (K 1 + k_adv K) / 900 * 900 ∧ k_min m K 2 = K 2 - 1 ∧ k_min m K 3 = (if m - m / 10 * 10 = 0 then (if K 3 ≤ 0 then K 3 else K 3 - 1) else K 3) ∧ k_min m K 5 = (if K 2 - 1 ≤ 0 then 0 else 1) := by
  obtain ⟨eq, hq⟩ := k_q_bd h
  have hX : k_okc (upd (upd K 8 0) 1 (k_rest (upd K 8 0))) := k_okc_u (k_okc_u h.c (by decide) (by decide) (by decide) (by decide)) (by decide) (by decide) (by decide) (by decide)
  obtain ⟨d, d0, d1, q0, q1, h4, h6, h8, h7, hz, h0, hok⟩ := k_ticks_w hX (k_q K) hq
  have eD : k_dues (upd (upd K 8 0) 1 (k_rest (upd K 8 0))) (k_q K) = k_dues K (k_q K) := rfl
  rw [eD] at d1 q0 q1 h7 hz
  have hZ : k_turn (upd K 8 0) = k_ticks (k_q K) (upd (upd K 8 0) 1 (k_rest (upd K 8 0))) := rfl
  have hm := k_min_L (n := m) h h5 rfl
  have hw : ∀ w, w ≠ 2 → w ≠ 3 → w ≠ 5 → k_min m K w = k_turn (upd K 8 0) w := by
    intro w n2 n3 n5
    rw [hm, upd_ne n5]
    unfold k_wearO
    split
    · split
      · rw [upd_ne n2]
      · rw [upd_ne n3, upd_ne n2]
    · rw [upd_ne n2]
  have t2 : k_turn (upd K 8 0) 2 = K 2 := k_turn_at (by decide) (by decide) (by decide) (by decide) (by decide) (by decide)
  have t3 : k_turn (upd K 8 0) 3 = K 3 := k_turn_at (by decide) (by decide) (by decide) (by decide) (by decide) (by decide)
  refine ⟨d, d0, d1, by omega, ?_, ?_, ?_, ?_, ?_, ?_, ?_, ?_, ?_, ?_⟩
  · rw [hw 4 (by decide) (by decide) (by decide), hZ, h4]; rfl
  · rw [hw 6 (by decide) (by decide) (by decide), hZ, h6]; rfl
  · rw [hw 8 (by decide) (by decide) (by decide), hZ, h8]
    show (0 : Int32) + d = d
    simp
  · rw [hw 7 (by decide) (by decide) (by decide), hZ, h7]; rfl
  · intro hn
    rw [hw 4 (by decide) (by decide) (by decide), hZ]
    exact hz hn
  · rw [hw 0 (by decide) (by decide) (by decide), hZ, h0]; rfl
  · rw [hw 1 (by decide) (by decide) (by decide), k_turn_1]; rfl
  · rw [hm, upd_ne (by decide)]
    unfold k_wearO
    split
    · split
      · rw [upd_s, t2]
      · rw [upd_ne (by decide), upd_s, t2]
    · rw [upd_s, t2]
  · rw [hm, upd_ne (by decide)]
    unfold k_wearO
    rw [t3]
    split
    · split
      · rw [upd_ne (by decide), t3]
      · rw [upd_s]
    · rw [upd_ne (by decide), t3]
  · rw [hm, upd_s, t2]
theorem k_min_st {m : Int32} {K : Nat → Int32} (h5 : K 5 = 0) : k_min m K = upd K 8 0 := (k_min_5 h5).symm
/-- what every minute keeps: calls, bellows, missed ones -/
theorem k_min_f {m : Int32} {K : Nat → Int32} (h : k_ok K) : k_min m K 6 = K 6 + k_min m K 8 ∧ k_min m K 4 = K 4 - k_min m K 8 ∧ 0 ≤ (k_min m K 8).toInt ∧ (k_min m K 8).toInt ≤ 36 ∧ (∃ e : Int32, k_min m K 7 = K 7 + e ∧ 0 ≤ e.toInt ∧ e.toInt ≤ 36 ∧ (¬ e = 0 → k_min m K 4 = 0)) := by
  by_cases h5 : K 5 = 0
  · rw [k_min_st h5]
    refine ⟨?_, ?_, by show 0 ≤ (0 : Int32).toInt; decide, by show (0 : Int32).toInt ≤ 36; decide, 0, ?_, by decide, by decide, fun z => absurd rfl z⟩
    · show K 6 = K 6 + 0; simp
    · show K 4 = K 4 - 0; simp
    · show K 7 = K 7 + 0; simp
  · obtain ⟨d, d0, d1, d2, h4, h6, h8, h7, hz, -⟩ := k_min_go (m := m) h h5
    have ie : (k_dues K (k_q K) - d).toInt = (k_dues K (k_q K)).toInt - d.toInt := i_sub (by omega) (by omega)
    rw [h8]
    refine ⟨h6, h4, d0, by omega, k_dues K (k_q K) - d, h7, by rw [ie]; omega, by rw [ie]; omega, fun hn => hz (fun z => hn (by rw [z, i_eq, i_sub (by omega) (by omega), e_0]; omega))⟩
