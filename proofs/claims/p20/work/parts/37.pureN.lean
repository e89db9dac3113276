/-! the law's questions about a minute, one clock: X before, k_min m X behind it -/
theorem k_at1_s (m : Int32) (X : Nat → Int32) : ∀ i : Nat, k_at1 (m + 1) (k_min m X) i = k_at1 m X (i + 1)
  | 0 => by
    show k_min m X = k_min (m + nI 0) X
    rw [k_m0]
  | i + 1 => by
    show k_min (m + 1 + nI i) (k_at1 (m + 1) (k_min m X) i) = k_min (m + nI (i + 1)) (k_at1 m X (i + 1))
    rw [k_at1_s m X i, ← nI_1 i]
    have : m + 1 + nI i = m + (nI i + 1) := by grind
    rw [this]
theorem k_nI1 {i : Nat} (h : i < 10000) : (nI i + 1).toInt = (i : Int) + 1 := by
  have e := nI_toInt (n := i) (by omega)
  rw [i_add (by rw [e, e_1]; omega) (by rw [e, e_1]; omega), e, e_1]
theorem k_nextR_P (m : Int32) (X : Nat → Int32) : ∀ (j i : Nat), i + j < 9000 → (k_nextR m X j (i + 1) = -1 ∧ k_nextR (m + 1) (k_min m X) j i = -1) ∨ (k_nextR (m + 1) (k_min m X) j i = k_nextR m X j (i + 1) - 1 ∧ 1 < (k_nextR m X j (i + 1)).toInt)
  | 0, _, _ => Or.inl ⟨rfl, rfl⟩
  | j + 1, i, h => by
    have e : k_at1 (m + 1) (k_min m X) (i + 1) = k_at1 m X (i + 1 + 1) := k_at1_s m X (i + 1)
    show (_ ∧ _) ∨ (_ ∧ _)
    unfold k_nextR
    rw [e]
    by_cases q : k_at1 m X (i + 1 + 1) 8 ≤ 0
    · rw [if_pos q, if_pos q]
      exact k_nextR_P m X j (i + 1) (by omega)
    · rw [if_neg q, if_neg q]
      refine Or.inr ⟨?_, ?_⟩
      · rw [← nI_1 i]; grind
      · rw [k_nI1 (by omega)]; omega
theorem k_nextR_more (m : Int32) (X : Nat → Int32) : ∀ (j i : Nat), ¬ k_nextR m X j i = -1 → k_nextR m X (j + 1) i = k_nextR m X j i
  | 0, _, h => absurd rfl h
  | j + 1, i, h => by
    unfold k_nextR at h ⊢
    by_cases q : k_at1 m X (i + 1) 8 ≤ 0
    · rw [if_pos q] at h ⊢
      rw [if_pos q]
      exact k_nextR_more m X j (i + 1) h
    · rw [if_neg q, if_neg q]
theorem k_next_e (m : Int32) (X : Nat → Int32) : k_next m X = if k_min m X 8 ≤ 0 then k_nextR m X 719 1 else nI 0 + 1 := by
  have e : k_at1 m X (0 + 1) = k_min m X := by
    show k_min (m + nI 0) X = k_min m X
    rw [k_m0]
  unfold k_next
  show (if k_at1 m X (0 + 1) 8 ≤ 0 then k_nextR m X 719 (0 + 1) else nI 0 + 1) = _
  rw [e]
theorem k_c1 {m : Int32} {X : Nat → Int32} (h : k_ok X) : k_min m X 6 - X 6 = k_min m X 8 := by
  rw [(k_min_f (m := m) h).1]; grind
theorem k_c2 {m : Int32} {X : Nat → Int32} (h : k_ok X) : k_min m X 4 = X 4 - k_min m X 8 := (k_min_f h).2.1
theorem k_c3 {m : Int32} {X : Nat → Int32} (h : k_ok X) : ¬ k_min m X 4 < 0 := by
  obtain ⟨-, ⟨b1, -⟩, -⟩ := (k_min_ok m h).c
  rw [i_lt, e_0]
  omega
theorem k_c4 {m : Int32} {X : Nat → Int32} (h : k_ok X) (h7 : 0 ≤ (X 7).toInt ∧ (X 7).toInt ≤ 1000000) : X 7 ≤ k_min m X 7 := by
  obtain ⟨-, -, -, -, e, e7, e0, e1, -⟩ := k_min_f (m := m) h
  rw [e7, i_le, i_add (by omega) (by omega)]
  omega
theorem k_lat0 {m : Int32} {X : Nat → Int32} (h : k_ok X) (q : k_min m X 8 ≤ 0) : k_min m X 8 = 0 := by
  obtain ⟨-, -, h0, -⟩ := k_min_f (m := m) h
  rw [i_le, e_0] at q
  rw [i_eq, e_0]
  omega
theorem k_c5 {m : Int32} {X : Nat → Int32} (h : k_ok X) (hn : ¬ k_next m X ≤ 1) : k_min m X 8 = 0 ∧ k_next (m + 1) (k_min m X) = k_next m X - 1 := by
  rw [k_next_e m X] at hn ⊢
  by_cases q : k_min m X 8 ≤ 0
  · rw [if_pos q] at hn ⊢
    refine ⟨k_lat0 h q, ?_⟩
    rcases k_nextR_P m X 719 0 (by omega) with ⟨e1, -⟩ | ⟨e1, e2⟩
    · exact absurd (show k_nextR m X 719 1 ≤ 1 by rw [show k_nextR m X 719 1 = -1 from e1]; decide) hn
    · have e3 : 1 < (k_nextR m X 719 1).toInt := e2
      have e1 : k_nextR (m + 1) (k_min m X) 719 0 = k_nextR m X 719 1 - 1 := e1
      have h9 := Int32.toInt_lt (k_nextR m X 719 1)
      have hne : ¬ k_nextR (m + 1) (k_min m X) 719 0 = -1 := fun z => by
        rw [e1, i_eq, i_sub (by rw [e_1]; omega) (by rw [e_1]; omega), e_1] at z
        have em : (-1 : Int32).toInt = -1 := by decide
        rw [em] at z
        omega
      show k_nextR (m + 1) (k_min m X) (719 + 1) 0 = _
      rw [k_nextR_more _ _ _ _ hne]
      exact e1
  · rw [if_neg q] at hn
    exact absurd (show nI 0 + 1 ≤ 1 by decide) hn
theorem k_c6 {m : Int32} {X : Nat → Int32} : k_next m X = 1 ↔ ¬ k_min m X 8 ≤ 0 := by
  rw [k_next_e m X]
  by_cases q : k_min m X 8 ≤ 0
  · rw [if_pos q]
    refine ⟨fun z => ?_, fun z => absurd q z⟩
    rcases k_nextR_P m X 719 0 (by omega) with ⟨e1, -⟩ | ⟨-, e2⟩
    · have e3 : k_nextR m X 719 1 = -1 := e1
      rw [e3] at z
      exact absurd z (by decide)
    · have e3 : 1 < (k_nextR m X 719 1).toInt := e2
      rw [z, e_1] at e3
      omega
  · rw [if_neg q]
    exact ⟨fun _ => q, fun _ => by decide⟩
theorem k_c7 {m : Int32} {X : Nat → Int32} (h : k_ok X) (hs : ¬ k_stand X ≤ 0) : k_stand (k_min m X) = k_stand X - 1 := by
  unfold k_stand at hs ⊢
  by_cases h5 : X 5 = 0
  · rw [if_pos h5] at hs
    exact absurd (by decide) hs
  · rw [if_neg h5] at hs ⊢
    obtain ⟨d, -, -, -, -, -, -, -, -, -, -, h2, -, h5'⟩ := k_min_go (m := m) h h5
    obtain ⟨b1, b2⟩ := k_ok_2 h h5
    rw [h5', h2]
    by_cases q : X 2 - 1 ≤ 0
    · rw [if_pos q, if_pos rfl, i_eq, i_sub (by rw [e_1]; omega) (by rw [e_1]; omega), e_1, e_0]
      rw [i_le, i_sub (by rw [e_1]; omega) (by rw [e_1]; omega), e_1, e_0] at q
      omega
    · rw [if_neg q, if_neg (by decide)]
theorem k_stand_0 {X : Nat → Int32} (h : k_ok X) (hs : k_stand X = 0) : X 5 = 0 := by
  by_cases h5 : X 5 = 0
  · exact h5
  · obtain ⟨b1, b2⟩ := k_ok_2 h h5
    unfold k_stand at hs
    rw [if_neg h5] at hs
    rw [hs, e_0] at b1
    omega
theorem k_c8 {m : Int32} {X : Nat → Int32} (h : k_ok X) (hs : k_stand X = 0) : k_stand (k_min m X) = 0 := by
  have h5 := k_stand_0 h hs
  rw [k_min_st h5]
  unfold k_stand
  rw [if_pos (show upd X 8 0 5 = 0 from h5)]
theorem k_c9 {m : Int32} {X : Nat → Int32} (h : k_ok X) (h5 : ¬ X 5 = 0) : k_min m X 0 = X 0 + (X 1 + k_adv X) / 900 - (X 0 + (X 1 + k_adv X) / 900) / 720 * 720 := by
  obtain ⟨d, -, -, -, -, -, -, -, -, h0, -⟩ := k_min_go (m := m) h h5
  rw [h0, (k_q_bd h).1]
  rfl
theorem k_c10 {m : Int32} {X : Nat → Int32} (h : k_ok X) (h5 : ¬ X 5 = 0) : k_min m X 1 = X 1 + k_adv X - (X 1 + k_adv X) / 900 * 900 ∧ k_min m X 2 = X 2 - 1 := by
  obtain ⟨d, -, -, -, -, -, -, -, -, -, h1, h2, -⟩ := k_min_go (m := m) h h5
  exact ⟨h1, h2⟩
theorem k_c11 {m : Int32} {X : Nat → Int32} (h : k_ok X) (h5 : ¬ X 5 = 0) {b : Int32} (eb : b = if m - m / 10 * 10 = 0 then 1 else 0) : k_min m X 3 = if 0 < X 3 - b then X 3 - b else 0 := by
  obtain ⟨d, -, -, -, -, -, -, -, -, -, -, -, h3, -⟩ := k_min_go (m := m) h h5
  obtain ⟨b1, b2⟩ := k_ok_3 h
  rw [h3, eb]
  by_cases q : m - m / 10 * 10 = 0
  · rw [if_pos q, if_pos q]
    have e : (X 3 - 1).toInt = (X 3).toInt - 1 := by rw [i_sub (by rw [e_1]; omega) (by rw [e_1]; omega), e_1]
    by_cases q2 : X 3 ≤ 0
    · have q3 : ¬ 0 < X 3 - 1 := by rw [i_lt, e_0, e]; rw [i_le, e_0] at q2; omega
      rw [if_pos q2, if_neg q3, i_eq, e_0]
      rw [i_le, e_0] at q2
      omega
    · rw [if_neg q2]
      by_cases q3 : 0 < X 3 - 1
      · rw [if_pos q3]
      · rw [if_neg q3, i_eq, e, e_0]
        rw [i_lt, e_0, e] at q3
        rw [i_le, e_0] at q2
        omega
  · rw [if_neg q, if_neg q]
    have e : X 3 - 0 = X 3 := by simp
    rw [e]
    by_cases q3 : 0 < X 3
    · rw [if_pos q3]
    · rw [if_neg q3, i_eq, e_0]
      rw [i_lt, e_0] at q3
      omega
theorem k_c12 {m : Int32} {X : Nat → Int32} (h : k_ok X) (h5 : ¬ X 5 = 0) {b : Int32} (eb : b = if X 2 ≤ 1 then 0 else 1) : k_read (k_min m X) 5 = b := by
  obtain ⟨d, -, -, -, -, -, -, -, -, -, -, -, -, h5'⟩ := k_min_go (m := m) h h5
  obtain ⟨b1, b2⟩ := k_ok_2 h h5
  show (if k_min m X 5 = 0 then 0 else 1) = b
  have e : (X 2 - 1).toInt = (X 2).toInt - 1 := by rw [i_sub (by rw [e_1]; omega) (by rw [e_1]; omega), e_1]
  rw [eb, h5']
  by_cases q : X 2 ≤ 1
  · have p : X 2 - 1 ≤ 0 := by rw [i_le, e, e_0]; rw [i_le, e_1] at q; omega
    rw [if_pos q, if_pos p]
    decide
  · have p : ¬ X 2 - 1 ≤ 0 := by rw [i_le, e, e_0]; rw [i_le, e_1] at q; omega
    rw [if_neg q, if_neg p]
    decide
theorem k_c13 {m : Int32} {X : Nat → Int32} (h : k_ok X) (h5 : ¬ X 5 = 0) : k_min m X 8 + k_min m X 7 - X 7 = k_dues X (k_q X) := by
  obtain ⟨d, -, -, -, -, -, h8, h7, -⟩ := k_min_go (m := m) h h5
  rw [h8, h7]
  grind
theorem k_c14 {m : Int32} {X : Nat → Int32} (h : k_ok X) (hn : ¬ k_min m X 7 ≤ X 7) : k_min m X 4 = 0 := by
  obtain ⟨-, -, -, -, e, e7, e0, e1, hz⟩ := k_min_f (m := m) h
  refine hz (fun z => hn ?_)
  rw [e7, z, i_le]
  simp
/-- one time of the hands, as the law asks for it -/
def k_ask (X : Nat → Int32) (t : Int32) : Int32 := if t - t / 30 * 30 = 0 then (if k_shutL X t = 0 then (if t = 0 then 12 else if t - t / 60 * 60 = 0 then t / 60 else 1) else 0) else 0
theorem k_ask_eq {X : Nat → Int32} (hc : k_okc X) {t : Int32} (h1 : 0 ≤ t.toInt) (h2 : t.toInt < 720) : k_ask X t = k_dueAt X t := by
  have e30 : (30 : Int32).toInt = 30 := by decide
  have e60 : (60 : Int32).toInt = 60 := by decide
  have r30 := i_rem (x := t) (y := 30) h1 (by decide)
  have r60 := i_rem (x := t) (y := 60) h1 (by decide)
  unfold k_ask k_dueAt k_due
  rw [k_shutL_eq hc]
  by_cases q : t - t / 30 * 30 = 0
  · rw [if_pos q]
    by_cases s : k_shutAt X t = 0
    · rw [if_pos s, if_pos s, if_pos q]
    · rw [if_neg s, if_neg s]
  · rw [if_neg q]
    have q0 : ¬ t = 0 := fun z => q (by rw [z]; decide)
    have q6 : ¬ t - t / 60 * 60 = 0 := fun z => q (by
      rw [i_eq, r60, e60, e_0] at z
      rw [i_eq, r30, e30, e_0]
      omega)
    rw [if_neg q0, if_neg q6, if_neg q]
    split <;> rfl
theorem k_ask_s {X : Nat → Int32} (h : k_ok X) {m : Int32} {j : Nat} (hj : j < 90) : k_dues X j + k_ask (k_min m X) (k_pos (X 0) (j + 1)) = k_dues X (j + 1) := by
  have hc := (k_min_ok m h).c
  obtain ⟨⟨a1, a2⟩, -⟩ := h.c
  have hb := k_pos_i a1 a2 (i := j + 1) (by omega)
  rw [k_ask_eq hc (by rw [hb]; omega) (by rw [hb]; omega)]
  have e : k_dueAt (k_min m X) (k_pos (X 0) (j + 1)) = k_dueAt X (k_pos (X 0) (j + 1)) := by
    have e12 : k_min m X 12 = X 12 ∧ k_min m X 13 = X 13 := by
      by_cases h5 : X 5 = 0
      · rw [k_min_st h5]; exact ⟨rfl, rfl⟩
      · rw [k_min_L h h5 rfl]
        have hw : ∀ w, w ≠ 0 → w ≠ 1 → w ≠ 4 → w ≠ 6 → w ≠ 7 → w ≠ 8 → w ≠ 2 → w ≠ 3 → w ≠ 5 → upd (k_wearO m (k_turn (upd X 8 0))) 5 (if k_turn (upd X 8 0) 2 - 1 ≤ 0 then 0 else 1) w = X w := by
          intro w n0 n1 n4 n6 n7 n8 n2 n3 n5
          rw [upd_ne n5]
          unfold k_wearO
          split
          · split
            · rw [upd_ne n2, k_turn_at n0 n1 n4 n6 n7 n8, upd_ne n8]
            · rw [upd_ne n3, upd_ne n2, k_turn_at n0 n1 n4 n6 n7 n8, upd_ne n8]
          · rw [upd_ne n2, k_turn_at n0 n1 n4 n6 n7 n8, upd_ne n8]
        exact ⟨hw 12 (by decide) (by decide) (by decide) (by decide) (by decide) (by decide) (by decide) (by decide) (by decide), hw 13 (by decide) (by decide) (by decide) (by decide) (by decide) (by decide) (by decide) (by decide) (by decide)⟩
    unfold k_dueAt k_shutAt
    rw [e12.1, e12.2]
  rw [e]
  rfl
