/-! the shop's numbers and the model's: the same, clock by clock -/
theorem k_at_eq {N : Nat} {m : Int32} {J K : Nat → Nat → Int32} (h : ∀ c, c < N → J c = K c) (i : Nat) : ∀ c, c < N → k_at N m J i c = k_at N m K i c := by
  intro c hc
  rw [k_at_at1 hc, k_at_at1 hc, h c hc]
theorem k_latest_eq {N : Nat} {m : Int32} {J K : Nat → Nat → Int32} (h : ∀ c, c < N → J c = K c) (i : Nat) : k_latest N m J i = k_latest N m K i :=
  k_sum_c N (fun c hc => by show k_min (m + nI i) (k_at N m J i c) 8 = k_min (m + nI i) (k_at N m K i c) 8; rw [k_at_eq h i c hc])
theorem k_calls_eq {N : Nat} {m : Int32} {J K : Nat → Nat → Int32} (h : ∀ c, c < N → J c = K c) (t : Nat) : k_calls N m J t = k_calls N m K t := k_sum_c t (fun i _ => k_latest_eq h i)
theorem k_all_eq {N : Nat} {w : Int32} {J K : Nat → Nat → Int32} (h : ∀ c, c < N → J c = K c) : k_all N J w = k_all N K w := k_sum_c N (fun c hc => by rw [h c hc])
theorem k_offs_eq {N : Nat} {m : Int32} {J K : Nat → Nat → Int32} (h : ∀ c, c < N → J c = K c) : k_offs N J m = k_offs N K m := k_sum_c N (fun c hc => by rw [h c hc])
theorem k_trues_eq {N : Nat} {m : Int32} {J K : Nat → Nat → Int32} (h : ∀ c, c < N → J c = K c) : k_trues N J m = k_trues N K m := k_sum_c N (fun c hc => by rw [h c hc])
theorem k_tally_eq {N : Nat} {m w : Int32} {J K : Nat → Nat → Int32} (h : ∀ c, c < N → J c = K c) : k_tally N J m w = k_tally N K m w := by
  unfold k_tally
  rw [k_all_eq h, k_all_eq h, k_all_eq h, k_trues_eq h, k_offs_eq h]
theorem k_loudR_eq {N : Nat} {m : Int32} {J K : Nat → Nat → Int32} (h : ∀ c, c < N → J c = K c) : ∀ (j i : Nat) (u : Int32 × Int32), k_loudR N m J j i u = k_loudR N m K j i u
  | 0, _, _ => rfl
  | j + 1, i, u => by
    show k_loudR N m J j (i + 1) (k_loud1 N m J i u) = k_loudR N m K j (i + 1) (k_loud1 N m K i u)
    have e : k_loud1 N m J i u = k_loud1 N m K i u := by unfold k_loud1; rw [k_latest_eq h]
    rw [e, k_loudR_eq h j]
theorem k_loud_eq {N : Nat} {m : Int32} {J K : Nat → Nat → Int32} (h : ∀ c, c < N → J c = K c) (t : Nat) : k_loud N m J t = k_loud N m K t := by
  unfold k_loud
  rw [k_loudR_eq h]
theorem k_mean_eq {N : Nat} {J K : Nat → Nat → Int32} (h : ∀ c, c < N → J c = K c) : k_mean N J = k_mean N K := by
  have e1 : k_goSum N J = k_goSum N K := k_sum_c N (fun c hc => by rw [h c hc])
  have e2 : k_advSum N J = k_advSum N K := k_sum_c N (fun c hc => by rw [h c hc])
  unfold k_mean
  rw [e1, e2]
theorem k_digT_eq {N : Nat} {m : Int32} {J K : Nat → Nat → Int32} (h : ∀ c, c < N → J c = K c) : ∀ i : Nat, k_digT N J m i = k_digT N K m i
  | 0 => rfl
  | i + 1 => by
    show k_digT N J m i * 31 + (k_tally N J m (nI i)).toInt64 = k_digT N K m i * 31 + (k_tally N K m (nI i)).toInt64
    rw [k_digT_eq h i, k_tally_eq h]
theorem k_digC_eq {N : Nat} {J K : Nat → Nat → Int32} (h : ∀ c, c < N → J c = K c) (d : Int64) : ∀ i : Nat, i ≤ N → k_digC J d i = k_digC K d i
  | 0, _ => rfl
  | i + 1, hi => by
    show k_mix (J i) (k_digC J d i) = k_mix (K i) (k_digC K d i)
    rw [k_digC_eq h d i (by omega), h i (by omega)]
theorem k_dig_eq {N : Nat} {m : Int32} {J K : Nat → Nat → Int32} (h : ∀ c, c < N → J c = K c) : k_dig N J m = k_dig N K m := by
  unfold k_dig
  rw [k_digT_eq h, k_digC_eq h _ N (Nat.le_refl N)]
theorem k_cpy_eq {K P : Nat → Nat → Int32} {N : Nat} : ∀ c, c < N → k_cpy K P N c = K c := fun c hc => by unfold k_cpy; rw [if_pos hc]
/-! calls: all of them, and those of the last minute -/
theorem k_call_68 (X : Nat → Int32) : k_call X 6 - k_call X 8 = X 6 - X 8 := by
  unfold k_call
  split
  · show (X 6 + _) - (X 8 + _) = X 6 - X 8
    generalize (if X 4 < k_due (X 0) then X 4 else k_due (X 0)) = d
    rw [i_eq, Int32.toInt_sub, Int32.toInt_sub, Int32.toInt_add, Int32.toInt_add]
    simp only [Int.bmod_def]
    omega
  · rfl
theorem k_ticks_68 : ∀ (j : Nat) (X : Nat → Int32), k_ticks j X 6 - k_ticks j X 8 = X 6 - X 8
  | 0, _ => rfl
  | j + 1, X => by
    show k_ticks j (k_tick X) 6 - k_ticks j (k_tick X) 8 = X 6 - X 8
    rw [k_ticks_68 j, k_tick_call, k_call_68]
    rfl
theorem k_wear_68 (m : Int32) (Y : Nat → Int32) : k_wear m Y 6 = Y 6 ∧ k_wear m Y 8 = Y 8 := by
  unfold k_wear k_wearO
  split <;> split <;> (try split) <;> exact ⟨rfl, rfl⟩
theorem k_min_68 (m : Int32) (X : Nat → Int32) : k_min m X 6 = X 6 + k_min m X 8 := by
  unfold k_min
  split
  · show X 6 = X 6 + 0
    simp
  · rw [(k_wear_68 _ _).1, (k_wear_68 _ _).2]
    have h := k_ticks_68 (((upd X 8 0) 1 + k_adv (upd X 8 0)) / 900).toInt.toNat (upd (upd X 8 0) 1 (k_rest (upd X 8 0)))
    rw [← k_turn_R] at h
    have e6 : (upd (upd X 8 0) 1 (k_rest (upd X 8 0))) 6 = X 6 := rfl
    have e8 : (upd (upd X 8 0) 1 (k_rest (upd X 8 0))) 8 = 0 := rfl
    rw [e6, e8] at h
    rw [i_eq] at h ⊢
    rw [Int32.toInt_sub, Int32.toInt_sub] at h
    rw [Int32.toInt_add]
    have h1 := Int32.le_toInt (k_turn (upd X 8 0) 6)
    have h2 := Int32.toInt_lt (k_turn (upd X 8 0) 6)
    have e0 : (0 : Int32).toInt = 0 := by decide
    simp only [Int.bmod_def] at h ⊢
    have h3 := Int32.le_toInt (X 6)
    have h4 := Int32.toInt_lt (X 6)
    omega
theorem k_sum_add (f g : Nat → Int32) : ∀ N : Nat, k_sum (fun c => f c + g c) N = k_sum f N + k_sum g N
  | 0 => rfl
  | n + 1 => by
    show k_sum (fun c => f c + g c) n + (f n + g n) = (k_sum f n + f n) + (k_sum g n + g n)
    rw [k_sum_add f g n]
    ac_rfl
theorem k_pass_6 {N : Nat} {m : Int32} {K : Nat → Nat → Int32} : ∀ t : Nat, k_sum (fun c => k_at N m K t c 6) N = k_sum (fun c => K c 6) N + k_calls N m K t
  | 0 => by show k_sum (fun c => K c 6) N = k_sum (fun c => K c 6) N + 0; simp
  | t + 1 => by
    have e : k_sum (fun c => k_at N m K (t + 1) c 6) N = k_sum (fun c => k_at N m K t c 6 + k_min (m + nI t) (k_at N m K t c) 8) N := by
      refine k_sum_c N (fun c hc => ?_)
      show k_upto (k_min (m + nI t)) (k_at N m K t) N c 6 = _
      unfold k_upto
      rw [if_pos hc, k_min_68]
    rw [e, k_sum_add, k_pass_6 t]
    show _ = _ + (k_calls N m K t + k_latest N m K t)
    rw [Int32.add_assoc]
    rfl
theorem k_pass_M {N : Nat} {m : Int32} {K : Nat → Nat → Int32} (t : Nat) : k_sum (fun c => k_at N m K t c 6) N - k_sum (fun c => K c 6) N = k_calls N m K t := by
  rw [k_pass_6, Int32.add_comm, Int32.add_sub_cancel]
theorem k_fore_M {N : Nat} {m : Int32} {K Q M : Nat → Nat → Int32} (hQ : ∀ c, c < N → Q c = K c) (hM : ∀ c, c < N → M c = K c) (t : Nat) (w : Int32) : k_fore N m K Q t w = k_foreM N m M t w := by
  unfold k_fore k_foreM
  rw [k_pass_M, k_calls_eq hQ, k_calls_eq hM]
  have hA : ∀ c, c < N → k_at N m Q t c = k_at N m M t c := fun c hc => by rw [k_at_eq hQ t c hc, k_at_eq hM t c hc]
  split
  · rfl
  · split
    · have e1 : k_all N (k_at N m Q t) 8 = k_sum (fun c => k_at N m M t c 7) N := k_sum_c N (fun c hc => by rw [hA c hc]; rfl)
      have e2 : k_all N K 8 = k_sum (fun c => M c 7) N := k_sum_c N (fun c hc => by rw [hM c hc]; rfl)
      rw [e1, e2]
    · split
      · exact k_all_eq hA
      · exact k_offs_eq hA
/-! what is thrown: names here, numbers there -/
theorem k_oC_c {N : Nat} (hN : N ≤ 10) (v : Int32) : k_oC N v = if k_isW v 0 (nI N - 1) = 0 then some x_IOB else none := by
  unfold k_oC k_isW
  have e1 : (1 : Int32).toInt = 1 := by decide
  have eN := nI_toInt (n := N) (by omega)
  have e2 : (nI N - 1).toInt = (N : Int) - 1 := by rw [i_sub (by rw [eN, e1]; omega) (by rw [eN, e1]; omega), eN, e1]
  by_cases h1 : v < 0
  · rw [if_pos h1, if_pos h1, if_pos rfl]
  · rw [if_neg h1, if_neg h1]
    by_cases h2 : v < nI N
    · have h3 : ¬ nI N - 1 < v := by
        rw [i_lt, e2]
        rw [i_lt, eN] at h2
        omega
      rw [if_pos h2, if_neg h3, if_neg (by decide)]
    · have h3 : nI N - 1 < v := by
        rw [i_lt, e2]
        rw [i_lt, eN] at h2
        omega
      rw [if_neg h2, if_pos h3, if_pos rfl]
theorem k_hc_c {N : Nat} (hN : N ≤ 10) (v : Int32) : k_hc x_IOB (k_oC N v) = k_c1 N v := by
  rw [k_oC_c hN]
  unfold k_c1
  split <;> decide
theorem k_hc_Y (v : Int32) : k_hc x_IOB (k_oY v) = k_cY v := by
  unfold k_oY k_cY
  split <;> decide
theorem k_hc_M (v : Int32) : k_hc x_IAE (k_oM v) = k_cM v := by
  unfold k_oM k_cM
  split <;> decide
theorem k_hc_A {N : Nat} (hN : N ≤ 10) (v : Int32) : k_hc x_IAE ((k_oT v).or (k_oN N)) = k_cA N v := by
  unfold k_oT k_cA k_oN
  by_cases h1 : k_isW v 0 719 = 0
  · rw [if_pos h1, if_pos h1]; (first | decide | (show k_hc _ (some _) = _; decide))
  · rw [if_neg h1, if_neg h1]
    have e10 : (10 : Int32).toInt = 10 := by decide
    have eN := nI_toInt (n := N) (by omega)
    by_cases h2 : nI N < 10
    · have h3 : ¬ nI N = 10 := by
        rw [i_lt, eN, e10] at h2
        rw [i_eq, eN, e10]
        omega
      rw [if_pos h2, if_neg h3]; (first | decide | (show k_hc _ (some _) = _; decide))
    · have h3 : nI N = 10 := by
        rw [i_lt, eN, e10] at h2
        rw [i_eq, eN, e10]
        omega
      rw [if_neg h2, if_pos h3]; (first | decide | (show k_hc _ (some _) = _; decide))
theorem k_hc_G {N : Nat} (hN : N ≤ 10) (v a b s : Int32) : k_hc x_IOB ((k_oC N v).or (k_oG a b s)) = k_cG N v a b s := by
  rw [k_oC_c hN]
  unfold k_cG k_oG
  split
  · (first | decide | (show k_hc _ (some _) = _; decide))
  · split
    · (first | decide | (show k_hc _ (some _) = _; decide))
    · split
      · (first | decide | (show k_hc _ (some _) = _; decide))
      · split <;> (first | decide | (show k_hc _ (some _) = _; decide))
theorem k_hc_T {N : Nat} (hN : N ≤ 10) (v t : Int32) : k_hc x_IOB ((k_oC N v).or (k_oT t)) = k_cT N v t := by
  rw [k_oC_c hN]
  unfold k_cT k_oT
  split
  · (first | decide | (show k_hc _ (some _) = _; decide))
  · split <;> (first | decide | (show k_hc _ (some _) = _; decide))
theorem k_hc_R {N : Nat} (hN : N ≤ 10) (v t : Int32) : k_hc x_IOB ((k_oC N v).or (k_oR t)) = k_cR N v t := by
  rw [k_oC_c hN]
  unfold k_cR k_oR
  split
  · (first | decide | (show k_hc _ (some _) = _; decide))
  · split <;> (first | decide | (show k_hc _ (some _) = _; decide))
theorem k_hc_F (t w : Int32) : k_hc x_IAE ((k_oM t).or (k_oF w)) = k_cF t w := by
  unfold k_oM k_oF k_cF
  split
  · (first | decide | (show k_hc _ (some _) = _; decide))
  · split <;> (first | decide | (show k_hc _ (some _) = _; decide))
theorem k_hc_E {N : Nat} (hN : N ≤ 10) (v t : Int32) : k_hc x_IOB ((k_oC N v).or (k_oE t)) = k_cE N v t := by
  rw [k_oC_c hN]
  unfold k_cE k_oE
  split
  · (first | decide | (show k_hc _ (some _) = _; decide))
  · by_cases h : k_isW t 0 2 = 0
    · rw [if_pos h]
      by_cases h0 : t = 0
      · subst h0; exact absurd h (by decide)
      · by_cases h1 : t = 1
        · subst h1; exact absurd h (by decide)
        · by_cases h2 : t = 2
          · subst h2; exact absurd h (by decide)
          · rw [if_neg h0, if_neg h1, if_neg h2]; (first | decide | (show k_hc _ (some _) = _; decide))
    · rw [if_neg h]
      rcases k_isE_in h with rfl | rfl | rfl <;> (first | decide | (show k_hc _ (some _) = _; decide))
theorem k_hc_H {N : Nat} (hN : N ≤ 10) (v f t : Int32) : k_hc x_IOB ((k_oC N v).or (k_oS f t)) = k_cH N v f t := by
  rw [k_oC_c hN]
  unfold k_cH k_oS k_oS3 k_oT
  split
  · (first | decide | (show k_hc _ (some _) = _; decide))
  · by_cases hf : f = -1
    · subst hf
      have hw : ¬ k_isW (-1) (-1) 719 = 0 := by decide
      rw [if_neg hw, if_pos rfl, if_pos rfl, if_pos rfl]
      split
      · (first | decide | (show k_hc _ (some _) = _; decide))
      · split <;> (first | decide | (show k_hc _ (some _) = _; decide))
    · rw [if_neg hf, if_neg hf, if_neg hf]
      have e0 : (0 : Int32).toInt = 0 := by decide
      have em : (-1 : Int32).toInt = -1 := by decide
      have e7 : k_isW f (-1) 719 = k_isW f 0 719 := by
        unfold k_isW
        by_cases h1 : f < -1
        · have h2 : f < 0 := by rw [i_lt, em] at h1; rw [i_lt, e0]; omega
          rw [if_pos h1, if_pos h2]
        · have h2 : ¬ f < 0 := by rw [i_lt, e0]; rw [i_lt, em] at h1; rw [i_eq, em] at hf; omega
          rw [if_neg h1, if_neg h2]
      rw [e7]
      split
      · (first | decide | (show k_hc _ (some _) = _; decide))
      · split <;> (first | decide | (show k_hc _ (some _) = _; decide))
