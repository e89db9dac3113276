/-! the model's row of numbers -/
theorem cu_sg_get {K : Nat → Nat → Int32} {i w : Nat} (hw : w < 14) : cu_sg K (14 * i + w) = K i w := by
  unfold cu_sg
  rw [show (14 * i + w) / 14 = i by omega, show (14 * i + w) % 14 = w by omega]
theorem cu_sg_put {K : Nat → Nat → Int32} {i w : Nat} {v : Int32} (hw : w < 14) : upd (cu_sg K) (14 * i + w) v = cu_sg (va_up K i (upd (K i) w v)) := by
  funext j
  simp only [upd, cu_sg]
  by_cases h : j = 14 * i + w
  · subst h
    rw [if_pos rfl, show (14 * i + w) / 14 = i by omega, show (14 * i + w) % 14 = w by omega, va_up_self]; simp [upd]
  · rw [if_neg h]
    by_cases h2 : j / 14 = i
    · rw [h2, va_up_self]; simp only [upd]; rw [if_neg (by omega)]
    · rw [va_up_ne _ _ h2]
theorem va_up_eta (K : Nat → Nat → Int32) (i : Nat) : va_up K i (K i) = K := by
  funext j
  by_cases h : j = i
  · rw [h, va_up_self]
  · rw [va_up_ne _ _ h]
theorem cu_ix {i w : Nat} : (14 : Int32) * nI i + nI w = nI (14 * i + w) := by
  rw [show (14 : Int32) = nI 14 from rfl, pk_mul, nI_add]
theorem cu_mw_m {D : va_G} {C : Nat → ClassId} {o r q : Nat} {th n m : Int32} {K : Nat → Nat → Int32} {H : Heap} {v : Int32} (h : va_P D vwCl [(o, .inr (2, [.int th, .int n, .ref r, .ref q])), (r, .inl (C 0, 140, .inl (cu_sg K))), (q, .inl (C 0, 1, .inl (upd (fun _ => m) 0 v)))] H) : va_P D vwCl (cu_mw C o r q th n v K) H := by
  intro k z hz
  match k, hz with
  | 0, hz => exact h 0 z hz
  | 1, hz => exact h 1 z hz
  | 2, hz =>
    have h2 := h 2 (q, .inl (C 0, 1, .inl (upd (fun _ => m) 0 v))) rfl
    have e : z = (q, .inl (C 0, 1, .inl (fun _ => v))) := (Option.some.inj hz).symm
    rw [e]
    have h3 : H[q]? = some (vp_cell (C 0) (1, .inl (upd (fun _ => m) 0 v))) := h2
    show H[q]? = some (vp_cell (C 0) (1, .inl (fun _ => v)))
    rw [h3]
    rfl
  | k + 3, hz => simp at hz
theorem k_isC_in {N : Nat} {v : Int32} (hN : N ≤ 10) (h : ¬ k_isW v 0 (nI N - 1) = 0) : ∃ i : Nat, i < N ∧ v = nI i := by
  unfold k_isW at h
  have e0 : (0 : Int32).toInt = 0 := by decide
  have e1 : (1 : Int32).toInt = 1 := by decide
  have eN : (nI N - 1).toInt = (N : Int) - 1 := by rw [i_sub (by rw [nI_toInt (by omega), e1]; omega) (by rw [nI_toInt (by omega), e1]; omega), nI_toInt (by omega), e1]
  by_cases h1 : v < 0
  · rw [if_pos h1] at h; exact absurd rfl h
  · rw [if_neg h1] at h
    by_cases h2 : nI N - 1 < v
    · rw [if_pos h2] at h; exact absurd rfl h
    · obtain ⟨j, hj, e⟩ := nI_of h1
      subst e
      rw [i_lt, eN, nI_toInt hj] at h2
      exact ⟨j, by omega, rfl⟩
