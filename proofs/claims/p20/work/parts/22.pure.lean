/-! WHAT IS THE SAME: plain facts of numbers, for clocks whose numbers lie where they must -/
theorem i_add {x y : Int32} (h1 : -2147483648 ≤ x.toInt + y.toInt) (h2 : x.toInt + y.toInt < 2147483648) : (x + y).toInt = x.toInt + y.toInt := by
  rw [Int32.toInt_add, Int.bmod_def]; omega
theorem i_sub {x y : Int32} (h1 : -2147483648 ≤ x.toInt - y.toInt) (h2 : x.toInt - y.toInt < 2147483648) : (x - y).toInt = x.toInt - y.toInt := by
  rw [Int32.toInt_sub, Int.bmod_def]; omega
theorem i_mul {x y : Int32} (h1 : -2147483648 ≤ x.toInt * y.toInt) (h2 : x.toInt * y.toInt < 2147483648) : (x * y).toInt = x.toInt * y.toInt := by
  rw [Int32.toInt_mul, Int.bmod_def]; omega
theorem i_div {x y : Int32} (hx : 0 ≤ x.toInt) (hy : 0 < y.toInt) : (x / y).toInt = x.toInt / y.toInt := by
  have h2 := Int32.toInt_lt x
  have h3 : x.toInt / y.toInt ≤ x.toInt := Int.ediv_le_self _ hx
  have h4 : 0 ≤ x.toInt / y.toInt := Int.ediv_nonneg hx (by omega)
  rw [Int32.toInt_div, Int.tdiv_eq_ediv_of_nonneg hx, Int.bmod_def]; omega
theorem i_rem {x y : Int32} (hx : 0 ≤ x.toInt) (hy : 0 < y.toInt) : (x - x / y * y).toInt = x.toInt % y.toInt := by
  have h2 := Int32.toInt_lt x
  have h4 : 0 ≤ x.toInt / y.toInt := Int.ediv_nonneg hx (by omega)
  have e1 := i_div hx hy
  have h5 : y.toInt * (x.toInt / y.toInt) ≤ x.toInt := Int.mul_ediv_self_le (by omega)
  have h6 : 0 ≤ y.toInt * (x.toInt / y.toInt) := Int.mul_nonneg (by omega) h4
  have e2 : (x / y * y).toInt = y.toInt * (x.toInt / y.toInt) := by
    rw [i_mul (by rw [e1, Int.mul_comm]; omega) (by rw [e1, Int.mul_comm]; omega), e1, Int.mul_comm]
  rw [i_sub (by rw [e2]; omega) (by rw [e2]; omega), e2, Int.emod_def]
theorem i_lt {x y : Int32} : x < y ↔ x.toInt < y.toInt := Int32.lt_iff_toInt_lt
theorem i_le {x y : Int32} : x ≤ y ↔ x.toInt ≤ y.toInt := Int32.le_iff_toInt_le
theorem i_eq {x y : Int32} : x = y ↔ x.toInt = y.toInt := Int32.toInt_inj.symm
/-- where a clock's numbers lie -/
def k_ok (K : Nat → Int32) : Prop :=
  (0 ≤ (K 0).toInt ∧ (K 0).toInt < 720) ∧ (0 ≤ (K 1).toInt ∧ (K 1).toInt < 900) ∧ (0 ≤ (K 2).toInt ∧ (K 2).toInt ≤ 600) ∧ (0 ≤ (K 3).toInt ∧ (K 3).toInt ≤ 100) ∧ (0 ≤ (K 4).toInt ∧ (K 4).toInt ≤ 60) ∧ (K 5 = 0 ∨ (K 5 = 1 ∧ 1 ≤ (K 2).toInt)) ∧
  (20 ≤ (K 9).toInt ∧ (K 9).toInt ≤ 40) ∧ (20 ≤ (K 10).toInt ∧ (K 10).toInt ≤ 40) ∧ (-20 ≤ (K 11).toInt ∧ (K 11).toInt ≤ 20) ∧ (-1 ≤ (K 12).toInt ∧ (K 12).toInt < 720) ∧ (0 ≤ (K 13).toInt ∧ (K 13).toInt < 720)
/-- the part of it that calls need -/
def k_okc (K : Nat → Int32) : Prop := (0 ≤ (K 0).toInt ∧ (K 0).toInt < 720) ∧ (0 ≤ (K 4).toInt ∧ (K 4).toInt ≤ 60) ∧ (-1 ≤ (K 12).toInt ∧ (K 12).toInt < 720) ∧ (0 ≤ (K 13).toInt ∧ (K 13).toInt < 720)
theorem k_ok.c {K : Nat → Int32} (h : k_ok K) : k_okc K := by
  obtain ⟨h0, h1, h2, h3, h4, h5, h9, h10, h11, h12, h13⟩ := h
  exact ⟨h0, h4, h12, h13⟩
/-- floorMod of a sum that is not negative, or a little less -/
theorem k_fm_pos {x y : Int32} (hx : 0 ≤ x.toInt) (hy : 0 < y.toInt) : (k_fm x y).toInt = x.toInt % y.toInt := by
  have hr := i_rem hx hy
  have hx0 : (0 : Int32) ≤ x ^^^ y := by
    rw [i_le]
    show (0 : Int) ≤ (x ^^^ y).toInt
    have e1 : x.toBitVec.msb = false := by
      rw [BitVec.msb_eq_false_iff_two_mul_lt]
      have : x.toInt = x.toBitVec.toInt := rfl
      rw [BitVec.toInt_eq_toNat_cond] at this
      have := x.toBitVec.isLt
      split at * <;> omega
    have e2 : y.toBitVec.msb = false := by
      rw [BitVec.msb_eq_false_iff_two_mul_lt]
      have : y.toInt = y.toBitVec.toInt := rfl
      rw [BitVec.toInt_eq_toNat_cond] at this
      have := y.toBitVec.isLt
      split at * <;> omega
    have e3 : (x ^^^ y).toBitVec.msb = false := by
      rw [Int32.toBitVec_xor, BitVec.msb_xor, e1, e2]; rfl
    show (0 : Int) ≤ (x ^^^ y).toBitVec.toInt
    exact BitVec.toInt_nonneg_of_msb_false e3
  unfold k_fm
  rw [if_pos hx0]
  exact hr
theorem k_fm_720 {x : Int32} (hx : -720 < x.toInt) : (k_fm x 720).toInt = x.toInt % 720 := by
  by_cases h0 : 0 ≤ x.toInt
  · exact k_fm_pos h0 (by decide)
  · have e720 : (720 : Int32).toInt = 720 := by decide
    have hd : (x / 720).toInt = 0 := by
      rw [Int32.toInt_div, e720]
      have e1 : x.toInt.tdiv 720 = 0 := by
        have e2 : x.toInt = -(-x.toInt) := by omega
        rw [e2, Int.neg_tdiv, Int.tdiv_eq_ediv_of_nonneg (by omega)]
        omega
      rw [e1]; decide
    have hd0 : x / 720 = 0 := by rw [i_eq, hd]; decide
    have hr : x - x / 720 * 720 = x := by rw [hd0]; simp
    have hn : ¬ (0 : Int32) ≤ x ^^^ 720 := by
      rw [i_le]
      have e1 : x.toBitVec.msb = true := by
        rw [BitVec.msb_eq_true_iff_two_mul_ge]
        have : x.toInt = x.toBitVec.toInt := rfl
        rw [BitVec.toInt_eq_toNat_cond] at this
        have := x.toBitVec.isLt
        split at * <;> omega
      have e3 : (x ^^^ 720).toBitVec.msb = true := by
        rw [Int32.toBitVec_xor, BitVec.msb_xor, e1]; decide
      have e4 : (x ^^^ 720).toInt < 0 := BitVec.toInt_neg_of_msb_true e3
      have e5 : (0 : Int32).toInt = 0 := by decide
      omega
    have hx0 : ¬ x = 0 := fun z => by rw [z] at h0; exact h0 (by decide)
    unfold k_fm
    rw [if_neg hn, hr, if_neg hx0, i_add (by rw [e720]; omega) (by rw [e720]; omega), e720]
    omega
theorem k_off_M {K : Nat → Int32} {m : Int32} (h : k_okc K) (hm : 0 ≤ m.toInt) : (((K 0 + 720) + 360) - (m - m / 720 * 720)) - (((K 0 + 720) + 360) - (m - m / 720 * 720)) / 720 * 720 - 360 = k_off K m := by
  obtain ⟨⟨a1, a2⟩, -⟩ := h
  have e720 : (720 : Int32).toInt = 720 := by decide
  have e360 : (360 : Int32).toInt = 360 := by decide
  have er : (m - m / 720 * 720).toInt = m.toInt % 720 := by rw [i_rem hm (by decide), e720]
  have et : (k_tt m).toInt = m.toInt % 720 := by unfold k_tt; rw [k_fm_pos hm (by decide), e720]
  have e1 : (K 0 + 720).toInt = (K 0).toInt + 720 := by rw [i_add (by rw [e720]; omega) (by rw [e720]; omega), e720]
  have e2 : ((K 0 + 720) + 360).toInt = (K 0).toInt + 1080 := by rw [i_add (by rw [e1, e360]; omega) (by rw [e1, e360]; omega), e1, e360]; omega
  have e3 : (((K 0 + 720) + 360) - (m - m / 720 * 720)).toInt = (K 0).toInt + 1080 - m.toInt % 720 := by rw [i_sub (by rw [e2, er]; omega) (by rw [e2, er]; omega), e2, er]
  have e4 : (K 0 - k_tt m).toInt = (K 0).toInt - m.toInt % 720 := by rw [i_sub (by rw [et]; omega) (by rw [et]; omega), et]
  have e5 : (K 0 - k_tt m + 360).toInt = (K 0).toInt - m.toInt % 720 + 360 := by rw [i_add (by rw [e4, e360]; omega) (by rw [e4, e360]; omega), e4, e360]
  have e6 := i_rem (x := ((K 0 + 720) + 360) - (m - m / 720 * 720)) (y := 720) (by rw [e3]; omega) (by decide)
  have e7 := k_fm_720 (x := K 0 - k_tt m + 360) (by rw [e5]; omega)
  unfold k_off
  generalize (((K 0 + 720) + 360) - (m - m / 720 * 720)) - (((K 0 + 720) + 360) - (m - m / 720 * 720)) / 720 * 720 = A at e6 ⊢
  generalize k_fm (K 0 - k_tt m + 360) 720 = B at e7 ⊢
  rw [e3, e720] at e6
  rw [e5] at e7
  rw [i_eq, i_sub (by rw [e360]; omega) (by rw [e360]; omega), i_sub (by rw [e360]; omega) (by rw [e360]; omega)]
  omega
theorem k_tt_M {m : Int32} (hm : 0 ≤ m.toInt) : m - m / 720 * 720 = k_tt m := by
  unfold k_tt
  rw [i_eq, i_rem hm (by decide), k_fm_pos hm (by decide)]
def k_shutM (K : Nat → Int32) : Int32 := if K 12 = -1 then 0 else if ((K 13 + 720) - K 12) - ((K 13 + 720) - K 12) / 720 * 720 = 0 then 1 else if ((K 13 + 720) - K 12) - ((K 13 + 720) - K 12) / 720 * 720 ≤ ((K 0 + 720) - K 12) - ((K 0 + 720) - K 12) / 720 * 720 then 0 else 1
theorem k_shut_M {K : Nat → Int32} (h : k_okc K) : k_shutM K = k_shutAt K (K 0) := by
  obtain ⟨⟨a1, a2⟩, -, ⟨b1, b2⟩, ⟨c1, c2⟩⟩ := h
  have e720 : (720 : Int32).toInt = 720 := by decide
  have e0 : (0 : Int32).toInt = 0 := by decide
  have em : (-1 : Int32).toInt = -1 := by decide
  have aux : ∀ x : Int32, 0 ≤ x.toInt → x.toInt < 720 → (((x + 720) - K 12) - ((x + 720) - K 12) / 720 * 720).toInt = (x.toInt + 720 - (K 12).toInt) % 720 := by
    intro x h1 h2
    have e1 : (x + 720).toInt = x.toInt + 720 := by rw [i_add (by rw [e720]; omega) (by rw [e720]; omega), e720]
    have e2 : ((x + 720) - K 12).toInt = x.toInt + 720 - (K 12).toInt := by rw [i_sub (by rw [e1]; omega) (by rw [e1]; omega), e1]
    rw [i_rem (by rw [e2]; omega) (by decide), e2, e720]
  have eW := aux (K 13) c1 c2
  have eS := aux (K 0) a1 a2
  unfold k_shutM k_shutAt
  simp only [i_eq, i_le, i_lt, eW, eS, e0, em]
  by_cases q1 : (K 12).toInt = -1
  · rw [if_pos q1, if_pos q1]
  · rw [if_neg q1, if_neg q1]
    by_cases q2 : ((K 13).toInt + 720 - (K 12).toInt) % 720 = 0 <;> by_cases q3 : ((K 13).toInt + 720 - (K 12).toInt) % 720 ≤ ((K 0).toInt + 720 - (K 12).toInt) % 720 <;> by_cases q4 : (K 13).toInt ≤ (K 12).toInt <;> by_cases q5 : (K 12).toInt ≤ (K 0).toInt <;> by_cases q6 : (K 13).toInt ≤ (K 0).toInt <;> by_cases q7 : (K 0).toInt < (K 12).toInt <;> simp only [q2, q3, q4, q5, q6, q7, if_true, if_false] <;> omega

/-- a call, if it is not shut off -/
def k_call (X : Nat → Int32) : Nat → Int32 := if k_shutAt X (X 0) = 0 then k_cuckoo X (k_due (X 0)) else X
theorem k_tick_call (K : Nat → Int32) : k_tick K = k_call (k_on K) := rfl
theorem upd_id (X : Nat → Int32) (k : Nat) : upd X k (X k) = X := by
  funext j
  simp only [upd]
  by_cases h : j = k
  · rw [if_pos h, h]
  · rw [if_neg h]
theorem upd_ne {X : Nat → Int32} {k j : Nat} {v : Int32} (h : j ≠ k) : upd X k v j = X j := by simp [upd, h]
theorem upd_s {X : Nat → Int32} {k : Nat} {v : Int32} : upd X k v k = v := by simp [upd]
theorem upd_uu (X : Nat → Int32) (k : Nat) (v w : Int32) : upd (upd X k v) k w = upd X k w := by
  funext j
  simp only [upd]
  by_cases h : j = k <;> simp [h]
theorem upd_comm (X : Nat → Int32) {k j : Nat} (v w : Int32) (h : k ≠ j) : upd (upd X k v) j w = upd (upd X j w) k v := by
  funext q
  simp only [upd]
  by_cases h1 : q = k
  · have h2 : q ≠ j := fun e => h (h1.symm.trans e)
    simp [h1, h]
  · by_cases h2 : q = j
    · subst h2; simp [h1]
    · simp [h1, h2]
theorem k_cuck_0 (X : Nat → Int32) : k_cuck X 0 0 = X := by
  unfold k_cuck
  have e1 : X 4 - 0 = X 4 := by simp
  have e2 : ∀ k, X k + 0 = X k := fun k => by simp
  have e3 : X 7 + (0 - 0) = X 7 := by simp
  rw [e1, e2, e2, e3]
  rw [upd_id, upd_id, upd_id, upd_id]
theorem k_cuckoo_0 {X : Nat → Int32} (h : 0 ≤ (X 4).toInt) : k_cuckoo X 0 = X := by
  unfold k_cuckoo
  rw [if_neg (by rw [i_lt]; have e0 : (0 : Int32).toInt = 0 := by decide
                 omega)]
  exact k_cuck_0 X
theorem k_call_1 {X : Nat → Int32} (h : k_okc X) (hd : ¬ X 0 - X 0 / 30 * 30 = 0) : k_call X = X := by
  obtain ⟨⟨a1, a2⟩, ⟨b1, -⟩, -⟩ := h
  have e0 : (0 : Int32).toInt = 0 := by decide
  have e30 : (30 : Int32).toInt = 30 := by decide
  have e60 : (60 : Int32).toInt = 60 := by decide
  have r30 := i_rem (x := X 0) (y := 30) a1 (by decide)
  have r60 := i_rem (x := X 0) (y := 60) a1 (by decide)
  have hdue : k_due (X 0) = 0 := by
    unfold k_due
    rw [if_neg (fun z => hd (by rw [z]; decide)), if_neg (fun z => hd (by
      rw [i_eq, r60, e60, e0] at z
      rw [i_eq, r30, e30, e0]
      omega)), if_neg hd]
  unfold k_call
  rw [hdue, k_cuckoo_0 b1]
  split <;> rfl
theorem k_call_2 {X : Nat → Int32} (hs : ¬ k_shutAt X (X 0) = 0) : k_call X = X := by unfold k_call; rw [if_neg hs]
theorem k_call_3 {X : Nat → Int32} {w d : Int32} (hs : k_shutAt X (X 0) = 0) (hw : w = k_due (X 0)) (hd : d = if X 4 < w then X 4 else w) :
    upd (upd (upd (upd X 4 (X 4 + -d)) 6 (X 6 + d)) 8 (X 8 + d)) 7 (X 7 + (w - d)) = k_call X := by
  unfold k_call
  rw [if_pos hs, ← hw]
  unfold k_cuckoo k_cuck
  rw [← hd, Int32.sub_eq_add_neg (X 4) d]

theorem k_on_1 (X : Nat → Int32) (v : Int32) : k_on (upd X 1 v) = upd (k_on X) 1 v := by
  unfold k_on
  rw [upd_ne (by decide), upd_comm _ _ _ (by decide)]
theorem k_cuckoo_1 (X : Nat → Int32) (v d : Int32) : k_cuckoo (upd X 1 v) d = upd (k_cuckoo X d) 1 v := by
  unfold k_cuckoo k_cuck
  simp only [upd_ne (X := X) (k := 1) (j := 4) (by decide), upd_ne (X := X) (k := 1) (j := 6) (by decide), upd_ne (X := X) (k := 1) (j := 7) (by decide), upd_ne (X := X) (k := 1) (j := 8) (by decide)]
  rw [upd_comm X _ _ (show (1 : Nat) ≠ 4 by decide), upd_comm _ _ _ (show (1 : Nat) ≠ 6 by decide), upd_comm _ _ _ (show (1 : Nat) ≠ 8 by decide), upd_comm _ _ _ (show (1 : Nat) ≠ 7 by decide)]
theorem k_shutAt_1 (X : Nat → Int32) (v t : Int32) : k_shutAt (upd X 1 v) t = k_shutAt X t := rfl
theorem k_call_u1 (X : Nat → Int32) (v : Int32) : k_call (upd X 1 v) = upd (k_call X) 1 v := by
  unfold k_call
  rw [k_shutAt_1, upd_ne (show (0 : Nat) ≠ 1 by decide), k_cuckoo_1]
  split <;> rfl
theorem k_tick_1 (X : Nat → Int32) (v : Int32) : k_tick (upd X 1 v) = upd (k_tick X) 1 v := by
  rw [k_tick_call, k_tick_call, k_on_1, k_call_u1]
theorem k_cuckoo_at (X : Nat → Int32) (d : Int32) {w : Nat} (h4 : w ≠ 4) (h6 : w ≠ 6) (h7 : w ≠ 7) (h8 : w ≠ 8) : k_cuckoo X d w = X w := by
  unfold k_cuckoo k_cuck
  rw [upd_ne h7, upd_ne h8, upd_ne h6, upd_ne h4]
theorem k_call_at (X : Nat → Int32) {w : Nat} (h4 : w ≠ 4) (h6 : w ≠ 6) (h7 : w ≠ 7) (h8 : w ≠ 8) : k_call X w = X w := by
  unfold k_call
  split
  · exact k_cuckoo_at X _ h4 h6 h7 h8
  · rfl
theorem k_tick_at (X : Nat → Int32) {w : Nat} (h0 : w ≠ 0) (h4 : w ≠ 4) (h6 : w ≠ 6) (h7 : w ≠ 7) (h8 : w ≠ 8) : k_tick X w = X w := by
  rw [k_tick_call, k_call_at _ h4 h6 h7 h8]
  exact upd_ne h0
theorem k_ticks_at {w : Nat} (h0 : w ≠ 0) (h4 : w ≠ 4) (h6 : w ≠ 6) (h7 : w ≠ 7) (h8 : w ≠ 8) : ∀ (j : Nat) (X : Nat → Int32), k_ticks j X w = X w
  | 0, _ => rfl
  | j + 1, X => (k_ticks_at h0 h4 h6 h7 h8 j (k_tick X)).trans (k_tick_at X h0 h4 h6 h7 h8)
theorem k_okc_u {X : Nat → Int32} {k : Nat} {v : Int32} (h : k_okc X) (h0 : k ≠ 0) (h4 : k ≠ 4) (h12 : k ≠ 12) (h13 : k ≠ 13) : k_okc (upd X k v) := by
  unfold k_okc
  rw [upd_ne (Ne.symm h0), upd_ne (Ne.symm h4), upd_ne (Ne.symm h12), upd_ne (Ne.symm h13)]
  exact h
theorem k_on_ok {X : Nat → Int32} (h : k_okc X) : k_okc (k_on X) := by
  obtain ⟨⟨a1, a2⟩, h4, h12, h13⟩ := h
  have e720 : (720 : Int32).toInt = 720 := by decide
  have e1 : (1 : Int32).toInt = 1 := by decide
  have e2 : (X 0 + 1).toInt = (X 0).toInt + 1 := by rw [i_add (by rw [e1]; omega) (by rw [e1]; omega), e1]
  have e3 := i_rem (x := X 0 + 1) (y := 720) (by rw [e2]; omega) (by decide)
  rw [e2, e720] at e3
  refine ⟨?_, h4, h12, h13⟩
  show 0 ≤ (X 0 + 1 - (X 0 + 1) / 720 * 720).toInt ∧ (X 0 + 1 - (X 0 + 1) / 720 * 720).toInt < 720
  rw [e3]
  omega
theorem k_due_bd {t : Int32} (h1 : 0 ≤ t.toInt) (h2 : t.toInt < 720) : 0 ≤ (k_due t).toInt ∧ (k_due t).toInt ≤ 12 := by
  have e60 : (60 : Int32).toInt = 60 := by decide
  unfold k_due
  split
  · decide
  · split
    · rw [i_div h1 (by decide), e60]; omega
    · split <;> decide
theorem k_call_ok {X : Nat → Int32} (h : k_okc X) : k_okc (k_call X) := by
  have h' := h
  obtain ⟨⟨a1, a2⟩, ⟨b1, b2⟩, h12, h13⟩ := h
  obtain ⟨d1, d2⟩ := k_due_bd a1 a2
  unfold k_call
  split
  · refine ⟨?_, ?_, ?_, ?_⟩
    · rw [k_cuckoo_at _ _ (by decide) (by decide) (by decide) (by decide)]; exact ⟨a1, a2⟩
    · have e : k_cuckoo X (k_due (X 0)) 4 = X 4 - (if X 4 < k_due (X 0) then X 4 else k_due (X 0)) := rfl
      rw [e]
      split
      · rw [i_sub (by omega) (by omega)]; omega
      · rename_i hn
        rw [i_lt] at hn
        rw [i_sub (by omega) (by omega)]; omega
    · rw [k_cuckoo_at _ _ (by decide) (by decide) (by decide) (by decide)]; exact h12
    · rw [k_cuckoo_at _ _ (by decide) (by decide) (by decide) (by decide)]; exact h13
  · exact h'
theorem k_tick_ok {X : Nat → Int32} (h : k_okc X) : k_okc (k_tick X) := k_call_ok (k_on_ok h)
theorem k_ticks_ok : ∀ (j : Nat) (X : Nat → Int32), k_okc X → k_okc (k_ticks j X)
  | 0, _, h => h
  | j + 1, X, h => k_ticks_ok j (k_tick X) (k_tick_ok h)
theorem k_advW_bd {K : Nat → Int32} {a b : Int32} (h : k_ok K) (ha : 20 ≤ a.toInt ∧ a.toInt ≤ 40) (hb : 20 ≤ b.toInt ∧ b.toInt ≤ 40) : 387 ≤ (k_advW K a b).toInt ∧ (k_advW K a b).toInt ≤ 1820 := by
  obtain ⟨-, -, -, -, -, -, -, -, ⟨s1, s2⟩, -⟩ := h
  have e900 : (900 : Int32).toInt = 900 := by decide
  have e10 : (10 : Int32).toInt = 10 := by decide
  have e1 : (900 * a).toInt = 900 * a.toInt := by rw [i_mul (by rw [e900]; omega) (by rw [e900]; omega), e900]
  have e2 : (900 * a / b).toInt = 900 * a.toInt / b.toInt := by rw [i_div (by rw [e1]; omega) (by omega), e1]
  have q1 : 450 ≤ 900 * a.toInt / b.toInt := Int.le_ediv_of_mul_le (by omega) (by omega)
  have q2 : 900 * a.toInt / b.toInt ≤ 1800 := Int.ediv_le_of_le_mul (by omega) (by omega)
  have e3 : (900 * a / b + K 11).toInt = 900 * a.toInt / b.toInt + (K 11).toInt := by rw [i_add (by rw [e2]; omega) (by rw [e2]; omega), e2]
  have e4 : ((900 * a / b + K 11) / 10).toInt = (900 * a.toInt / b.toInt + (K 11).toInt) / 10 := by rw [i_div (by rw [e3]; omega) (by decide), e3, e10]
  have e5 : (900 * a / b + K 11 - (900 * a / b + K 11) / 10).toInt = (900 * a.toInt / b.toInt + (K 11).toInt) - (900 * a.toInt / b.toInt + (K 11).toInt) / 10 := by rw [i_sub (by rw [e3, e4]; omega) (by rw [e3, e4]; omega), e3, e4]
  have hb0 : ¬ b = 0 := fun z => by rw [z] at hb; exact absurd hb.1 (by decide)
  unfold k_advW
  rw [if_neg hb0]
  split
  · rw [e3]; omega
  · rw [e5]; omega
theorem k_adv_bd {K : Nat → Int32} (h : k_ok K) : 387 ≤ (k_adv K).toInt ∧ (k_adv K).toInt ≤ 1820 := by
  have h' := h
  obtain ⟨-, -, -, -, -, -, h9, h10, -⟩ := h'
  exact k_advW_bd h h9 h10
theorem k_b0 {K : Nat → Int32} (h : k_ok K) : ¬ K 10 = 0 := by
  obtain ⟨-, -, -, -, -, -, -, ⟨h10, -⟩, -⟩ := h
  exact fun z => by rw [z] at h10; exact absurd h10 (by decide)
/-- a minute's wear, as the model does it -/
theorem k_wear_M {Y : Nat → Int32} {m : Int32} (h2 : 1 ≤ (Y 2).toInt ∧ (Y 2).toInt ≤ 600) (h3 : 0 ≤ (Y 3).toInt ∧ (Y 3).toInt ≤ 100) :
    k_wear m Y = (if Y 2 + (-1) = 0 then upd (if m - m / 10 * 10 = 0 then upd (upd Y 2 (Y 2 + (-1))) 3 (if 0 < Y 3 - 1 then Y 3 - 1 else 0) else upd Y 2 (Y 2 + (-1))) 5 0 else (if m - m / 10 * 10 = 0 then upd (upd Y 2 (Y 2 + (-1))) 3 (if 0 < Y 3 - 1 then Y 3 - 1 else 0) else upd Y 2 (Y 2 + (-1)))) := by
  have e0 : (0 : Int32).toInt = 0 := by decide
  have e1 : (1 : Int32).toInt = 1 := by decide
  have em : Y 2 + (-1) = Y 2 - 1 := by rw [Int32.sub_eq_add_neg]
  have e2 : (Y 2 - 1).toInt = (Y 2).toInt - 1 := by rw [i_sub (by rw [e1]; omega) (by rw [e1]; omega), e1]
  have e3 : (Y 3 - 1).toInt = (Y 3).toInt - 1 := by rw [i_sub (by rw [e1]; omega) (by rw [e1]; omega), e1]
  have hO : k_wearO m Y = (if m - m / 10 * 10 = 0 then upd (upd Y 2 (Y 2 - 1)) 3 (if 0 < Y 3 - 1 then Y 3 - 1 else 0) else upd Y 2 (Y 2 - 1)) := by
    unfold k_wearO
    split
    · split
      · rename_i hz
        rw [i_le, e0] at hz
        have hz0 : Y 3 = 0 := by rw [i_eq, e0]; omega
        rw [if_neg (by rw [i_lt, e0, e3]; omega)]
        have : upd (upd Y 2 (Y 2 - 1)) 3 0 = upd (upd Y 2 (Y 2 - 1)) 3 ((upd Y 2 (Y 2 - 1)) 3) := by rw [upd_ne (by decide), hz0]
        rw [this, upd_id]
      · rename_i hz
        rw [i_le, e0] at hz
        by_cases hp : (0 : Int32) < Y 3 - 1
        · rw [if_pos hp]
        · rw [if_neg hp]
          rw [i_lt, e0, e3] at hp
          have : Y 3 - 1 = 0 := by rw [i_eq, e3, e0]; omega
          rw [this]
    · rfl
  unfold k_wear
  rw [em, ← hO]
  by_cases hp : (0 : Int32) < Y 2 - 1
  · rw [if_pos hp, if_neg (fun z => by rw [z] at hp; exact absurd hp (by decide))]
  · rw [if_neg hp, if_pos (by rw [i_lt, e0, e2] at hp; rw [i_eq, e2, e0]; omega)]
