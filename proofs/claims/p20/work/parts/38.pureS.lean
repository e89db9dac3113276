/-! the law's questions about a minute, the whole shop: N clocks K, behind the minute k_nx N m K -/
def k_nx (N : Nat) (m : Int32) (K : Nat → Nat → Int32) : Nat → Nat → Int32 := k_upto (k_min m) K N
theorem k_nx_c {N c : Nat} {m : Int32} {K : Nat → Nat → Int32} (h : c < N) : k_nx N m K c = k_min m (K c) := by
  unfold k_nx k_upto
  rw [if_pos h]
theorem k_at_1 (N : Nat) (m : Int32) (K : Nat → Nat → Int32) : k_at N m K 1 = k_nx N m K := by
  show k_upto (k_min (m + nI 0)) K N = _
  rw [k_m0]
  rfl
theorem k_cpy_c {K P : Nat → Nat → Int32} {N c : Nat} (h : c < N) : k_cpy K P N c = K c := by
  unfold k_cpy
  rw [if_pos h]
theorem k_nx_Q {N : Nat} {m : Int32} {K Q : Nat → Nat → Int32} (hQ : ∀ c, c < N → Q c = K c) : ∀ c, c < N → k_nx N m Q c = k_nx N m K c := fun c hc => by rw [k_nx_c hc, k_nx_c hc, hQ c hc]
theorem k_lat_Q {N : Nat} {m : Int32} {K Q : Nat → Nat → Int32} (hQ : ∀ c, c < N → Q c = K c) : k_lat N m Q = k_lat N m K := k_sum_c N (fun c hc => by rw [hQ c hc])
theorem k_calls1 (N : Nat) (m : Int32) (K : Nat → Nat → Int32) : k_calls N m K 1 = k_lat N m K := by
  show (0 : Int32) + k_lat N (m + nI 0) K = _
  rw [k_m0]
  simp
theorem k_all_c {N : Nat} {K Q : Nat → Nat → Int32} (w : Int32) (h : ∀ c, c < N → Q c = K c) : k_all N Q w = k_all N K w := k_sum_c N (fun c hc => by rw [h c hc])
theorem k_f0 {N : Nat} {m : Int32} {K P : Nat → Nat → Int32} : k_fore N m K (k_cpy K P N) 1 0 = k_lat N m K := by
  show k_calls N m (k_cpy K P N) 1 = _
  rw [k_calls1, k_lat_Q (fun c hc => k_cpy_c hc)]
theorem k_f1 {N : Nat} {m : Int32} {K P : Nat → Nat → Int32} : k_fore N m K (k_cpy K P N) 1 1 = k_all N (k_nx N m K) 8 - k_all N K 8 := by
  show k_all N (k_at N m (k_cpy K P N) 1) 8 - k_all N K 8 = _
  rw [k_at_1, k_all_c 8 (k_nx_Q (fun c hc => k_cpy_c hc))]
theorem k_f2 {N : Nat} {m : Int32} {K P : Nat → Nat → Int32} : k_fore N m K (k_cpy K P N) 1 2 = k_goSum N (k_nx N m K) := by
  show k_all N (k_at N m (k_cpy K P N) 1) 5 = _
  rw [k_at_1, k_all_c 5 (k_nx_Q (fun c hc => k_cpy_c hc))]
  rfl
theorem k_f3 {N : Nat} {m : Int32} {K P : Nat → Nat → Int32} : k_fore N m K (k_cpy K P N) 1 3 = k_offs N (k_nx N m K) (m + 1) := by
  show k_offs N (k_at N m (k_cpy K P N) 1) (m + nI 1) = _
  rw [k_at_1]
  exact k_sum_c N (fun c hc => by rw [k_nx_Q (fun c hc => k_cpy_c hc) c hc]; rfl)
theorem k_t5 {N : Nat} {m : Int32} {K : Nat → Nat → Int32} {m' : Int32} : k_tally N (k_nx N m K) m' 5 = k_lat N m K :=
  k_sum_c N (fun c hc => by show k_read (k_nx N m K c) 9 = _; rw [k_nx_c hc]; rfl)
theorem k_t3 {N : Nat} {K : Nat → Nat → Int32} {m' : Int32} : k_tally N K m' 3 = k_goSum N K := rfl
theorem k_t1 {N : Nat} {K : Nat → Nat → Int32} {m' : Int32} (h : 0 ≤ m'.toInt) : k_tally N K m' 1 = m' - m' / 720 * 720 := (k_tt_M h).symm
theorem k_s15 {N : Nat} {m : Int32} {K : Nat → Nat → Int32} (h : ∀ c, c < N → k_ok (K c)) : k_sum (fun c => k_nx N m K c 6 - K c 6) N = k_lat N m K :=
  k_sum_c N (fun c hc => by rw [k_nx_c hc]; exact k_c1 (h c hc))
theorem k_sum_sub (f g : Nat → Int32) : ∀ N : Nat, k_sum (fun c => f c - g c) N = k_sum f N - k_sum g N
  | 0 => by show (0 : Int32) = 0 - 0; decide
  | N + 1 => by
    show k_sum (fun c => f c - g c) N + (f N - g N) = k_sum f N + f N - (k_sum g N + g N)
    rw [k_sum_sub f g N]
    grind
theorem k_s16 {N : Nat} {m : Int32} {K : Nat → Nat → Int32} : k_sum (fun c => k_nx N m K c 7 - K c 7) N = k_all N (k_nx N m K) 8 - k_all N K 8 :=
  k_sum_sub (fun c => k_nx N m K c 7) (fun c => K c 7) N
theorem k_s17 {N : Nat} {K : Nat → Nat → Int32} : k_sum (fun c => k_read (K c) 5 * k_adv (K c)) N = k_advSum N K :=
  k_sum_c N (fun c _ => by
    show (if K c 5 = 0 then 0 else 1) * k_adv (K c) = if K c 5 = 0 then 0 else k_adv (K c)
    by_cases h : K c 5 = 0
    · rw [if_pos h, if_pos h, Int32.zero_mul]
    · rw [if_neg h, if_neg h, Int32.one_mul])
theorem k_mean_r {N : Nat} {K : Nat → Nat → Int32} (h : ¬ k_goSum N K = 0) : k_mean N K = FP.ddiv (FP.i2d (k_advSum N K)) (FP.i2d (k_goSum N K)) := by
  unfold k_mean
  rw [if_neg h]
theorem k_mean_0 {N : Nat} {K : Nat → Nat → Int32} (h : k_goSum N K = 0) : k_mean N K = FP.dconst0 := by
  unfold k_mean
  rw [if_pos h]
/-! the invariant, behind minutes -/
theorem k_in_nx {N : Nat} {mn : Int32} {K : Nat → Nat → Int32} {T : Nat} (I : k_in N mn K T) (hT : T ≤ 20000) : k_in N (mn + 1) (k_nx N mn K) (T + 1) := by
  obtain ⟨h1, h2, h3, h4, h5⟩ := I
  have em : (mn + 1).toInt = mn.toInt + 1 := by rw [i_add (by rw [e_1]; omega) (by rw [e_1]; omega), e_1]
  refine ⟨h1, fun i hi => ?_, fun i hi => ?_, by rw [em]; omega, by rw [em]; omega⟩
  · unfold k_nx k_upto
    rw [if_neg (by omega)]
    exact h2 i hi
  · rw [k_nx_c hi]
    obtain ⟨hok, h0, h7⟩ := h3 i hi
    obtain ⟨-, -, -, -, e, e7, e0, e1, -⟩ := k_min_f (m := mn) hok
    have ee : (K i 7 + e).toInt = (K i 7).toInt + e.toInt := i_add (by omega) (by omega)
    refine ⟨k_min_ok mn hok, by rw [e7, ee]; omega, by rw [e7, ee, em]; omega⟩
theorem k_in_T {N : Nat} {mn : Int32} {K : Nat → Nat → Int32} {T T' : Nat} (I : k_in N mn K T) (h : T ≤ T') : k_in N mn K T' := by
  obtain ⟨h1, h2, h3, h4, h5⟩ := I
  exact ⟨h1, h2, h3, h4, by omega⟩
theorem k_in_at {N : Nat} {mn : Int32} {K : Nat → Nat → Int32} {T : Nat} (I : k_in N mn K T) (hT : T ≤ 10000) : ∀ t : Nat, t ≤ 1000 → k_in N (mn + nI t) (k_at N mn K t) (T + t)
  | 0, _ => by rw [k_m0]; exact I
  | t + 1, h => by
    have h9 := k_in_nx (k_in_at I hT t (by omega)) (by omega)
    have e : mn + nI (t + 1) = mn + nI t + 1 := by rw [← nI_1 t]; grind
    rw [e]
    exact h9
theorem k_in_7 {N : Nat} {mn : Int32} {K : Nat → Nat → Int32} {T i : Nat} (I : k_in N mn K T) (hT : T ≤ 20000) (hi : i < N) : 0 ≤ (K i 7).toInt ∧ (K i 7).toInt ≤ 1000000 := by
  obtain ⟨h1, h2, h3, h4, h5⟩ := I
  obtain ⟨-, h0, h7⟩ := h3 i hi
  omega
