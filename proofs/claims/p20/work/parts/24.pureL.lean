/-! WHAT THE LAW'S CLOCK DOES is what a clock does -/
theorem k_advL {K : Nat → Int32} {a b : Int32} (hb0 : ¬ b = 0) : k_advW K a b = if K 3 ≤ 19 then 900 * a / b + K 11 - (900 * a / b + K 11) / 10 else 900 * a / b + K 11 := by
  have e19 : (19 : Int32).toInt = 19 := by decide
  have e20 : (20 : Int32).toInt = 20 := by decide
  unfold k_advW
  rw [if_neg hb0]
  by_cases h : K 3 ≤ 19
  · rw [if_pos h, if_neg (by rw [i_le] at h ⊢; omega)]
  · rw [if_neg h, if_pos (by rw [i_le] at h ⊢; omega)]
def k_shutL (K : Nat → Int32) (t : Int32) : Int32 := if 0 ≤ K 12 then (if K 12 = K 13 then 1 else if K 13 ≤ K 12 then (if K 12 ≤ t then 1 else if K 13 ≤ t then 0 else 1) else (if t < K 12 then 0 else if K 13 ≤ t then 0 else 1)) else 0
theorem k_shutL_eq {K : Nat → Int32} {t : Int32} (h : k_okc K) : k_shutL K t = k_shutAt K t := by
  obtain ⟨-, -, ⟨b1, b2⟩, -⟩ := h
  have e0 : (0 : Int32).toInt = 0 := by decide
  have em : (-1 : Int32).toInt = -1 := by decide
  unfold k_shutL k_shutAt
  simp only [i_eq, i_le, i_lt, e0, em]
  by_cases q1 : (K 12).toInt = -1
  · rw [if_pos q1, if_neg (by omega)]
  · rw [if_neg q1, if_pos (by omega)]
    by_cases q2 : (K 12).toInt = (K 13).toInt
    · rw [if_pos q2, if_pos (by omega)]
      by_cases q3 : (K 12).toInt ≤ t.toInt
      · rw [if_pos q3]
      · rw [if_neg q3, if_neg (by omega)]
    · rw [if_neg q2]
def k_dueL (t : Int32) : Int32 := if t - t / 60 * 60 = 0 then (if t = 0 then 12 else t / 60) else if t - t / 60 * 60 = 30 then 1 else 0
theorem k_dueL_eq {t : Int32} (h1 : 0 ≤ t.toInt) (h2 : t.toInt < 720) : k_dueL t = k_due t := by
  have e0 : (0 : Int32).toInt = 0 := by decide
  have e30 : (30 : Int32).toInt = 30 := by decide
  have e60 : (60 : Int32).toInt = 60 := by decide
  have r30 := i_rem (x := t) (y := 30) h1 (by decide)
  have r60 := i_rem (x := t) (y := 60) h1 (by decide)
  unfold k_dueL k_due
  by_cases q1 : t - t / 60 * 60 = 0
  · rw [if_pos q1]
    by_cases q2 : t = 0
    · rw [if_pos q2, if_pos q2]
    · rw [if_neg q2, if_neg q2, if_pos q1]
  · have q0 : ¬ t = 0 := fun z => q1 (by rw [z]; decide)
    rw [if_neg q1, if_neg q0, if_neg q1]
    by_cases q3 : t - t / 60 * 60 = 30
    · rw [if_pos q3, if_pos (by rw [i_eq, r30, e30, e0]; rw [i_eq, r60, e60, e30] at q3; omega)]
    · rw [if_neg q3, if_neg (fun z => by
        rw [i_eq, r30, e30, e0] at z
        rw [i_eq, r60, e60, e30] at q3
        rw [i_eq, r60, e60, e0] at q1
        omega)]
theorem k_on720 {x : Int32} (h1 : 0 ≤ x.toInt) (h2 : x.toInt < 720) : (if x = 719 then 0 else x + 1) = x + 1 - (x + 1) / 720 * 720 := by
  have e0 : (0 : Int32).toInt = 0 := by decide
  have e1 : (1 : Int32).toInt = 1 := by decide
  have e719 : (719 : Int32).toInt = 719 := by decide
  have e720 : (720 : Int32).toInt = 720 := by decide
  have e2 : (x + 1).toInt = x.toInt + 1 := by rw [i_add (by rw [e1]; omega) (by rw [e1]; omega), e1]
  have e3 := i_rem (x := x + 1) (y := 720) (by rw [e2]; omega) (by decide)
  rw [e2, e720] at e3
  by_cases q : x = 719
  · rw [if_pos q, i_eq, e3, e0]
    rw [i_eq, e719] at q
    omega
  · rw [if_neg q, i_eq, e3, e2]
    rw [i_eq, e719] at q
    omega
theorem k_l899 {X : Nat → Int32} {j : Nat} (h0 : 0 ≤ (X 1).toInt) (hj : (X 1).toInt / 900 = (j : Int)) : X 1 ≤ 899 ↔ j = 0 := by
  have e899 : (899 : Int32).toInt = 899 := by decide
  rw [i_le, e899]
  omega
/-- the law's way through a minute of the hands -/
theorem k_body_L {X : Nat → Int32} {sh w0 w d : Int32} (hc : k_okc X) (esh : sh = if X 0 = 719 then 0 else X 0 + 1) (ew0 : w0 = k_dueL sh) (ew : (k_shutL X sh = 0 ∧ w = w0) ∨ (¬ k_shutL X sh = 0 ∧ w = 0)) (ed : d = if X 4 ≤ w then X 4 else w) :
    upd (upd (upd (upd (upd (upd X 1 (X 1 - 900)) 0 sh) 4 (X 4 - d)) 6 (X 6 + d)) 8 (X 8 + d)) 7 (X 7 + (w - d)) = k_body X := by
  have hc' := hc
  obtain ⟨⟨a1, a2⟩, ⟨b1, b2⟩, -⟩ := hc'
  have e0 : (0 : Int32).toInt = 0 := by decide
  rw [k_on720 a1 a2] at esh
  have hY := k_okc_body hc
  have e9 : X 1 - 900 = X 1 + (-900) := by rw [Int32.sub_eq_add_neg]
  rw [e9]
  show _ = k_call (upd (upd X 1 (X 1 + (-900))) 0 (X 0 + 1 - (X 0 + 1) / 720 * 720))
  rw [← esh] at hY ⊢
  have hs : k_shutL X sh = k_shutAt (upd (upd X 1 (X 1 + (-900))) 0 sh) sh := k_shutL_eq (K := upd (upd X 1 (X 1 + (-900))) 0 sh) hY
  rw [hs] at ew
  obtain ⟨⟨s1, s2⟩, -⟩ := hY
  have s1' : 0 ≤ sh.toInt := s1
  have s2' : sh.toInt < 720 := s2
  rw [k_dueL_eq s1' s2'] at ew0
  unfold k_call
  show _ = if k_shutAt (upd (upd X 1 (X 1 + (-900))) 0 sh) sh = 0 then k_cuckoo (upd (upd X 1 (X 1 + (-900))) 0 sh) (k_due sh) else upd (upd X 1 (X 1 + (-900))) 0 sh
  rcases ew with ⟨c, e⟩ | ⟨c, e⟩
  · rw [if_pos c, ← ew0, ← e]
    unfold k_cuckoo
    have e2 : (if upd (upd X 1 (X 1 + (-900))) 0 sh 4 < w then upd (upd X 1 (X 1 + (-900))) 0 sh 4 else w) = d := by
      show (if X 4 < w then X 4 else w) = d
      rw [ed]
      by_cases q : X 4 < w
      · rw [if_pos q, if_pos (by rw [i_le]; rw [i_lt] at q; omega)]
      · rw [if_neg q]
        by_cases q2 : X 4 ≤ w
        · rw [if_pos q2, i_eq]
          rw [i_lt] at q
          rw [i_le] at q2
          omega
        · rw [if_neg q2]
    rw [e2]
    rfl
  · rw [if_neg c]
    have ed0 : d = 0 := by
      rw [ed, e]
      by_cases q : X 4 ≤ 0
      · rw [if_pos q, i_eq, e0]
        rw [i_le, e0] at q
        omega
      · rw [if_neg q]
    rw [e, ed0]
    exact k_cuck_0 (upd (upd X 1 (X 1 + (-900))) 0 sh)
theorem k_min_L {K X : Nat → Int32} {n : Int32} (h : k_ok K) (h5 : ¬ K 5 = 0) (eX : X = k_turn (upd K 8 0)) : k_min n K = upd (k_wearO n X) 5 (if X 2 - 1 ≤ 0 then 0 else 1) := by
  have e0 : (0 : Int32).toInt = 0 := by decide
  unfold k_min
  rw [if_neg h5, ← eX]
  have h51 : X 5 = 1 := by
    rw [eX, k_turn_at (by decide) (by decide) (by decide) (by decide) (by decide) (by decide), upd_ne (by decide)]
    rcases k_ok_5 h with e | e
    · exact absurd e h5
    · exact e
  unfold k_wear
  by_cases q : (0 : Int32) < X 2 - 1
  · rw [if_pos q, if_neg (by rw [i_le]; rw [i_lt] at q; omega)]
    have e5 : k_wearO n X 5 = 1 := by
      unfold k_wearO
      split
      · split
        · exact h51
        · exact h51
      · exact h51
    rw [← e5, upd_id]
  · rw [if_neg q, if_pos (by rw [i_le]; rw [i_lt] at q; omega)]
theorem k_off_bd {K : Nat → Int32} {m : Int32} (h : k_okc K) (hm : 0 ≤ m.toInt) : -720 < (K 0 - (m - m / 720 * 720)).toInt ∧ (K 0 - (m - m / 720 * 720)).toInt < 720 := by
  obtain ⟨⟨a1, a2⟩, -⟩ := h
  have e720 : (720 : Int32).toInt = 720 := by decide
  have er : (m - m / 720 * 720).toInt = m.toInt % 720 := by rw [i_rem hm (by decide), e720]
  rw [i_sub (by rw [er]; omega) (by rw [er]; omega), er]
  omega
theorem k_off_L {K : Nat → Int32} {m b0 : Int32} (h : k_okc K) (hm : 0 ≤ m.toInt) (e : b0 = K 0 - (m - m / 720 * 720)) : k_off K m = if -360 ≤ b0 then (if b0 ≤ 359 then b0 else b0 + (-720)) else b0 + 720 := by
  have hb := k_off_bd h hm
  rw [← e] at hb
  have h' := h
  obtain ⟨⟨a1, a2⟩, -⟩ := h'
  have e720 : (720 : Int32).toInt = 720 := by decide
  have em720 : (-720 : Int32).toInt = -720 := by decide
  have e360 : (360 : Int32).toInt = 360 := by decide
  have em360 : (-360 : Int32).toInt = -360 := by decide
  have e359 : (359 : Int32).toInt = 359 := by decide
  have et : (k_tt m).toInt = m.toInt % 720 := by unfold k_tt; rw [k_fm_pos hm (by decide), e720]
  have er : (m - m / 720 * 720).toInt = m.toInt % 720 := by rw [i_rem hm (by decide), e720]
  have e4 : K 0 - k_tt m = b0 := by rw [e, i_eq, i_sub (by rw [et]; omega) (by rw [et]; omega), i_sub (by rw [er]; omega) (by rw [er]; omega), et, er]
  unfold k_off
  rw [e4]
  have e5 : (b0 + 360).toInt = b0.toInt + 360 := by rw [i_add (by rw [e360]; omega) (by rw [e360]; omega), e360]
  have e7 := k_fm_720 (x := b0 + 360) (by rw [e5]; omega)
  rw [e5] at e7
  have e8 : (k_fm (b0 + 360) 720 - 360).toInt = (b0.toInt + 360) % 720 - 360 := by rw [i_sub (by rw [e7, e360]; omega) (by rw [e7, e360]; omega), e7, e360]
  rw [i_eq, e8]
  by_cases q1 : -360 ≤ b0
  · rw [if_pos q1]
    rw [i_le, em360] at q1
    by_cases q2 : b0 ≤ 359
    · rw [if_pos q2]
      rw [i_le, e359] at q2
      omega
    · rw [if_neg q2, i_add (by rw [em720]; omega) (by rw [em720]; omega), em720]
      rw [i_le, e359] at q2
      omega
  · rw [if_neg q1, i_add (by rw [e720]; omega) (by rw [e720]; omega), e720]
    rw [i_le, em360] at q1
    omega
theorem k_off_a {b0 : Int32} (h : -720 < b0.toInt ∧ b0.toInt < 720) (q : ¬ -360 ≤ b0) : -360 ≤ b0 + 720 ∧ b0 + 720 ≤ 359 := by
  have e720 : (720 : Int32).toInt = 720 := by decide
  have em360 : (-360 : Int32).toInt = -360 := by decide
  have e359 : (359 : Int32).toInt = 359 := by decide
  rw [i_le, em360] at q
  rw [i_le, i_le, i_add (by rw [e720]; omega) (by rw [e720]; omega), e720, em360, e359]
  omega
theorem k_off_b {b0 : Int32} (h : -720 < b0.toInt ∧ b0.toInt < 720) (q : ¬ b0 ≤ 359) : b0 + (-720) ≤ 359 := by
  have e720 : (-720 : Int32).toInt = -720 := by decide
  have e359 : (359 : Int32).toInt = 359 := by decide
  rw [i_le, e359] at q
  rw [i_le, i_add (by rw [e720]; omega) (by rw [e720]; omega), e720, e359]
  omega
/-- below: one of n -/
def k_bel (v n : Int32) : Int32 := (v &&& 2147483647) - (v &&& 2147483647) / n * n
theorem k_and_nn (v : Int32) : 0 ≤ (v &&& 2147483647).toInt := by
  have e3 : (v &&& 2147483647).toBitVec.msb = false := by
    rw [Int32.toBitVec_and, BitVec.msb_and]
    have : (2147483647 : Int32).toBitVec.msb = false := by decide
    rw [this, Bool.and_false]
  exact BitVec.toInt_nonneg_of_msb_false e3
theorem k_bel_bd {v n : Int32} (hn : 0 < n.toInt) : 0 ≤ (k_bel v n).toInt ∧ (k_bel v n).toInt < n.toInt := by
  unfold k_bel
  rw [i_rem (k_and_nn v) hn]
  exact ⟨Int.emod_nonneg _ (by omega), Int.emod_lt_of_pos _ hn⟩
theorem k_bel_in (v : Int32) {n : Nat} (h0 : 0 < n) (h1 : n < 2147483648) : ∃ i : Nat, i < n ∧ k_bel v (nI n) = nI i := by
  have en := nI_toInt (n := n) h1
  obtain ⟨a1, a2⟩ := k_bel_bd (v := v) (n := nI n) (by rw [en]; omega)
  have e0 : (0 : Int32).toInt = 0 := by decide
  obtain ⟨j, hj, e⟩ := nI_of (x := k_bel v (nI n)) (by rw [i_lt, e0]; omega)
  rw [e, nI_toInt hj, en] at a2
  exact ⟨j, by omega, e⟩
