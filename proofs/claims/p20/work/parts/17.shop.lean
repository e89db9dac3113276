/-! WHAT THE SHOP DOES, in numbers: N clocks K, the minute m -/
def k_isW (x lo hi : Int32) : Int32 := if x < lo then 0 else if hi < x then 0 else 1
def k_tt (m : Int32) : Int32 := k_fm m 720
def k_off (K : Nat → Int32) (m : Int32) : Int32 := k_fm (K 0 - k_tt m + 360) 720 - 360
def k_sum (f : Nat → Int32) : Nat → Int32
  | 0 => 0
  | n + 1 => k_sum f n + f n
def k_all (N : Nat) (K : Nat → Nat → Int32) (w : Int32) : Int32 := k_sum (fun c => k_read (K c) w) N
def k_offs (N : Nat) (K : Nat → Nat → Int32) (m : Int32) : Int32 := k_sum (fun c => k_abs (k_off (K c) m)) N
def k_trues (N : Nat) (K : Nat → Nat → Int32) (m : Int32) : Int32 := k_sum (fun c => if k_off (K c) m = 0 then 1 else 0) N
def k_tally (N : Nat) (K : Nat → Nat → Int32) (m w : Int32) : Int32 :=
  if w = 0 then m else if w = 1 then k_tt m else if w = 2 then nI N else if w = 3 then k_all N K 5 else if w = 4 then k_all N K 7 else if w = 5 then k_all N K 9 else if w = 6 then k_trues N K m else k_offs N K m
def k_upto (g : (Nat → Int32) → Nat → Int32) (K : Nat → Nat → Int32) (i : Nat) : Nat → Nat → Int32 := fun j => if j < i then g (K j) else K j
def k_cpy (K P : Nat → Nat → Int32) (i : Nat) : Nat → Nat → Int32 := fun j => if j < i then K j else P j
/-- the calls of a minute -/
def k_lat (N : Nat) (v : Int32) (K : Nat → Nat → Int32) : Int32 := k_sum (fun c => k_min v (K c) 8) N
/-- the shop i minutes on -/
def k_at (N : Nat) (m : Int32) (K : Nat → Nat → Int32) : Nat → Nat → Nat → Int32
  | 0 => K
  | i + 1 => k_upto (k_min (m + nI i)) (k_at N m K i) N
def k_latest (N : Nat) (m : Int32) (K : Nat → Nat → Int32) (i : Nat) : Int32 := k_lat N (m + nI i) (k_at N m K i)
def k_calls (N : Nat) (m : Int32) (K : Nat → Nat → Int32) (t : Nat) : Int32 := k_sum (k_latest N m K) t
/-- one clock i minutes on -/
def k_at1 (m : Int32) (K : Nat → Int32) : Nat → Nat → Int32
  | 0 => K
  | i + 1 => k_min (m + nI i) (k_at1 m K i)
def k_nextR (m : Int32) (K : Nat → Int32) : Nat → Nat → Int32
  | 0, _ => -1
  | j + 1, i => if k_at1 m K (i + 1) 8 ≤ 0 then k_nextR m K j (i + 1) else nI i + 1
def k_next (m : Int32) (K : Nat → Int32) : Int32 := k_nextR m K 720 0
def k_loud1 (N : Nat) (m : Int32) (K : Nat → Nat → Int32) (i : Nat) (u : Int32 × Int32) : Int32 × Int32 := if k_latest N m K i ≤ u.1 then u else (k_latest N m K i, nI i + 1)
def k_loudR (N : Nat) (m : Int32) (K : Nat → Nat → Int32) : Nat → Nat → Int32 × Int32 → Int32 × Int32
  | 0, _, u => u
  | j + 1, i, u => k_loudR N m K j (i + 1) (k_loud1 N m K i u)
def k_loud (N : Nat) (m : Int32) (K : Nat → Nat → Int32) (t : Nat) : Int32 := (k_loudR N m K t 0 (0, -1)).2
def k_fore (N : Nat) (m : Int32) (K Q : Nat → Nat → Int32) (t : Nat) (w : Int32) : Int32 :=
  if w = 0 then k_calls N m Q t else if w = 1 then k_all N (k_at N m Q t) 8 - k_all N K 8 else if w = 2 then k_all N (k_at N m Q t) 5 else k_offs N (k_at N m Q t) (m + nI t)
def k_nextS (m : Int32) (K : Nat → Int32) : Nat → Nat → Nat → Int32
  | 0, i => k_at1 m K i
  | j + 1, i => if k_at1 m K (i + 1) 8 ≤ 0 then k_nextS m K j (i + 1) else k_at1 m K (i + 1)
def k_mendV (K : Nat → Int32) (w : Int32) : Int32 := if w = 0 then 100 - K 3 else if w = 1 then 60 - K 4 else k_nudge K
def k_mendK (K : Nat → Int32) (w : Int32) : Nat → Int32 := if w = 0 then upd K 3 100 else if w = 1 then upd K 4 60 else upd K 5 (k_nudge K)
theorem k_m0 (m : Int32) : m + nI 0 = m := by rw [nI_0, Int32.add_zero]
def k_goSum (N : Nat) (K : Nat → Nat → Int32) : Int32 := k_sum (fun c => if K c 5 = 0 then 0 else 1) N
def k_advSum (N : Nat) (K : Nat → Nat → Int32) : Int32 := k_sum (fun c => if K c 5 = 0 then 0 else k_adv (K c)) N
def k_mean (N : Nat) (K : Nat → Nat → Int32) : UInt64 := if k_goSum N K = 0 then FP.dconst0 else FP.ddiv (FP.i2d (k_advSum N K)) (FP.i2d (k_goSum N K))
def k_digT (N : Nat) (K : Nat → Nat → Int32) (m : Int32) : Nat → Int64
  | 0 => 1009
  | i + 1 => k_digT N K m i * 31 + (k_tally N K m (nI i)).toInt64
def k_digC (K : Nat → Nat → Int32) (d : Int64) : Nat → Int64
  | 0 => d
  | i + 1 => k_mix (K i) (k_digC K d i)
def k_dig (N : Nat) (K : Nat → Nat → Int32) (m : Int32) : Int64 := k_digC K (k_digT N K m 8) N
-- which exception a call throws
def k_oC (N : Nat) (v : Int32) : Option String := if v < 0 then some x_IOB else if v < nI N then none else some x_IOB
def k_oT (v : Int32) : Option String := if k_isW v 0 719 = 0 then some x_IAE else none
def k_oM (v : Int32) : Option String := if k_isW v 1 720 = 0 then some x_IAE else none
def k_oN (N : Nat) : Option String := if nI N < 10 then none else some x_ISE
def k_oG (a b s : Int32) : Option String := if k_isW a 20 40 = 0 then some x_IAE else if k_isW b 20 40 = 0 then some x_IAE else if k_isW s (-20) 20 = 0 then some x_IAE else none
def k_oE (v : Int32) : Option String := if v = 0 then none else if v = 1 then none else if v = 2 then none else some x_IAE
def k_oS3 (f t : Int32) : Option String := if f = -1 then (if t = 0 then none else some x_IAE) else none
def k_oS (f t : Int32) : Option String := (if f = -1 then none else k_oT f).or ((k_oT t).or (k_oS3 f t))
def k_oR (w : Int32) : Option String := if k_isW w 0 10 = 0 then some x_IOB else none
def k_oY (w : Int32) : Option String := if k_isW w 0 7 = 0 then some x_IOB else none
def k_oF (w : Int32) : Option String := if k_isW w 0 3 = 0 then some x_IOB else none
theorem k_oC_in {N : Nat} {v : Int32} (hN : N ≤ 10) (h : k_oC N v = none) : ∃ i : Nat, i < N ∧ v = nI i := by
  unfold k_oC at h
  rcases pk_ix v (n := N) (by omega) with h1 | h1 | h1
  · rw [if_pos h1] at h; cases h
  · by_cases h2 : v < 0
    · rw [if_pos h2] at h; cases h
    · rw [if_neg h2] at h
      by_cases h3 : v < nI N
      · exact absurd h3 (Int32.not_lt.mpr h1)
      · rw [if_neg h3] at h; cases h
  · exact h1
theorem k_oM_in {v : Int32} (h : k_oM v = none) : ∃ t : Nat, 1 ≤ t ∧ t ≤ 720 ∧ v = nI t := by
  unfold k_oM k_isW at h
  by_cases h1 : v < 1
  · rw [if_pos h1] at h; simp at h
  · rw [if_neg h1] at h
    by_cases h2 : 720 < v
    · rw [if_pos h2] at h; simp at h
    · have e1 : ¬ v.toInt < 1 := fun z => h1 (Int32.lt_iff_toInt_lt.mpr z)
      have e2 : ¬ 720 < v.toInt := fun z => h2 (Int32.lt_iff_toInt_lt.mpr z)
      obtain ⟨t, ht, e⟩ := nI_of (x := v) (fun z => e1 (by have := Int32.lt_iff_toInt_lt.mp z; have e0 : (0 : Int32).toInt = 0 := rfl; omega))
      subst e
      rw [nI_toInt ht] at e1 e2
      exact ⟨t, by omega, by omega, rfl⟩
theorem k_upto_0 {g : (Nat → Int32) → Nat → Int32} {K : Nat → Nat → Int32} : k_upto g K 0 = K := by funext j; simp [k_upto]
theorem k_upto_i {g : (Nat → Int32) → Nat → Int32} {K : Nat → Nat → Int32} {i : Nat} : k_upto g K i i = K i := by simp [k_upto]
theorem k_upto_s {g : (Nat → Int32) → Nat → Int32} {K : Nat → Nat → Int32} {i : Nat} : va_up (k_upto g K i) i (g (K i)) = k_upto g K (i + 1) := by
  funext j
  by_cases h : j = i
  · subst h; rw [va_up_self]; simp [k_upto]
  · rw [va_up_ne _ _ h]
    simp only [k_upto]
    by_cases h2 : j < i
    · rw [if_pos h2, if_pos (by omega)]
    · rw [if_neg h2, if_neg (by omega)]
theorem k_cpy_0 {K P : Nat → Nat → Int32} : k_cpy K P 0 = P := by funext j; simp [k_cpy]
theorem k_cpy_s {K P : Nat → Nat → Int32} {i : Nat} : va_up (k_cpy K P i) i (K i) = k_cpy K P (i + 1) := by
  funext j
  by_cases h : j = i
  · subst h; rw [va_up_self]; simp [k_cpy]
  · rw [va_up_ne _ _ h]
    simp only [k_cpy]
    by_cases h2 : j < i
    · rw [if_pos h2, if_pos (by omega)]
    · rw [if_neg h2, if_neg (by omega)]
