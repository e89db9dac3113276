/-! THE LAW'S LOOP -/
theorem lw_go {L i : Nat} (hL : L ≤ 2560) (hi : i ≤ 3000) (h : ¬ Int32.ofNat L - 5 < nI i) : i + 5 ≤ L := by
  have e5 : (5 : Int32).toInt = 5 := by decide
  have eL : (Int32.ofNat L).toInt = (L : Int) := nI_toInt (n := L) (by omega)
  have ei := nI_toInt (n := i) (by omega)
  rw [i_lt, i_sub (by rw [eL, e5]; omega) (by rw [eL, e5]; omega), eL, e5, ei] at h
  omega
theorem lw_step5 (b : Nat) : nI (5 * b) + 5 = nI (5 * (b + 1)) := by
  rw [show (5 : Int32) = nI 5 from rfl, nI_add]
  rfl
set_option maxHeartbeats 4000000 in
set_option maxRecDepth 100000 in
theorem lw_loop {p : Program} {l : Launch} {e : Env} {s : State} {m : MethodId} {args : Array Value} {below : List Frame} {meth : Method} {c : Code} {A : Nat → Prop} {Z : State → Prop} {H0 : Heap} {D : va_G} {C : Nat → ClassId} {sb L o r q out : Nat} {xs : Nat → Int32} {a : Nat → Nat}
    (X : lw_cx p l s m args c A H0 D C sb L xs) (hL : L ≤ 2560)
    (fin : ∀ (d0 : Drawn) (H : Heap) (locs : List Loc) (ls : Array Slot), s.drawn.sameBut d0 lw_cs → va_S A H0 H locs → W p l e room_1 (s.setDrawn d0) m args below meth c H locs 4000 90000 Z (F0 m 1129 ls [])) :
    ∀ (j b : Nat), L < 5 * (b + j) + 5 → b ≤ 512 → ∀ (d0 : Drawn) (N : Nat) (mn th : Int32) (K P M : Nat → Nat → Int32) (f : Nat → Int64) (H : Heap) (locs : List Loc) (ls : Array Slot), s.drawn.sameBut d0 lw_cs → k_iv N mn K M b → va_P D vwCl (lw_w C o r q th N mn M a K P out f) H → va_D A (lw_w C o r q th N mn M a K P out f) → va_S A H0 H locs → lv_has ls 9 [(0, .ref sb), (1, .ref (a 0)), (2, .ref o), (3, .ref out), (4, .int (nI (5 * b)))] → W p l e room_1 (s.setDrawn d0) m args below meth c H locs (30 + 6 * b) (600 + 170 * b) Z (F0 m 23 ls []) := by
  intro j
  induction j with
  | zero =>
    intro b hj hb5 d0 N mn th K P M f H locs ls hd0 I hP hD hS hl
    obtain ⟨hx, hb, hml, hts, hown, hG, hT, hX, hsb, hsA, hA, hlf⟩ := X
    refine lv_iload hx hb dL_law_23 (lv_at hl 4 rfl) ?_
    refine lv_aload_n hx hb dL_law_25 rfl (lv_at hl 0 rfl) ?_
    refine va_slen (s := s.setDrawn d0) hx hb hX hsb hsA hS dL_law_26 ?_
    refine lv_iconst (v := 5) hx hb dL_law_27 (by decide) ?_
    refine lv_isub hx hb dL_law_28 ?_
    refine lv_icmp_gt (tgt := 1129) hx hb dL_law_29 (by decide) (fun _ => ?_) (fun z => absurd (lw_go hL (by omega) z) (by omega))
    refine W.widen (k := 4000) (n := 90000) (by omega) (by omega) ?_
    exact fin d0 _ _ _ hd0 hS
  | succ j ih =>
    intro b hj hb5 d0 N mn th K P M f H locs ls hd0 I hP hD hS hl
    have X' := X
    obtain ⟨hx, hb, hml, hts, hown, hG, hT, hX, hsb, hsA, hA, hlf⟩ := X'
    have Xd : lw_cx p l (s.setDrawn d0) m args c A H0 D C sb L xs := ⟨hx, hb, hml, dr_words hts d0, hown, cu_G.same rfl hG, hT, hX, hsb, hsA, hA, hlf⟩
    refine lv_iload hx hb dL_law_23 (lv_at hl 4 rfl) ?_
    refine lv_aload_n hx hb dL_law_25 rfl (lv_at hl 0 rfl) ?_
    refine va_slen (s := s.setDrawn d0) hx hb hX hsb hsA hS dL_law_26 ?_
    refine lv_iconst (v := 5) hx hb dL_law_27 (by decide) ?_
    refine lv_isub hx hb dL_law_28 ?_
    refine lv_icmp_gt (tgt := 1129) hx hb dL_law_29 (by decide) (fun _ => ?_) (fun z => ?_)
    · refine W.widen (k := 4000) (n := 90000) (by omega) (by omega) ?_
      exact fin d0 _ _ _ hd0 hS
    have hi5 : 5 * b + 5 ≤ L := lw_go hL (by omega) z
    have hb9 : b < 512 := by omega
    have step : ∀ (d1 : Drawn) (N1 : Nat) (mn1 th1 : Int32) (K1 P1 M1 : Nat → Nat → Int32) (f1 : Nat → Int64) (H : Heap) (locs : List Loc) (ls : Array Slot), s.drawn.sameBut d1 lw_cs → k_iv N1 mn1 K1 M1 (b + 1) → va_P D vwCl (lw_w C o r q th1 N1 mn1 M1 a K1 P1 out f1) H → va_D A (lw_w C o r q th1 N1 mn1 M1 a K1 P1 out f1) → va_S A H0 H locs → lv_has ls 9 [(0, .ref sb), (1, .ref (a 0)), (2, .ref o), (3, .ref out), (4, .int (nI (5 * b)))] → W p l e room_1 (s.setDrawn d1) m args below meth c H locs (30 + 6 * b + 6) (600 + 170 * b + 170) Z (F0 m 1123 ls []) := by
      intro d1 N1 mn1 th1 K1 P1 M1 f1 H locs ls hd1 I1 hP hD hS hl
      refine lv_iinc (v := nI (5 * (b + 1))) (lv' := [(4, .int (nI (5 * (b + 1)))), (0, .ref sb), (1, .ref (a 0)), (2, .ref o), (3, .ref out)]) hx hb dL_law_1123 hl (k := 4) rfl (lw_step5 b) (by decide) rfl (fun ls hl => ?_)
      refine lv_goto (tgt := 23) hx hb dL_law_1126 (by decide) ?_
      refine W.widen (k := 30 + 6 * (b + 1)) (n := 600 + 170 * (b + 1)) (by omega) (by omega) ?_
      exact ih (b + 1) (by omega) (by omega) d1 N1 mn1 th1 K1 P1 M1 f1 _ _ _ hd1 I1 hP hD hS (lv_sub hl [1, 2, 3, 4, 0] rfl)
    refine lv_aload_n hx hb dL_law_32 rfl (lv_at hl 0 rfl) ?_
    refine lv_iload hx hb dL_law_33 (lv_at hl 4 rfl) ?_
    refine va_sld (s := s.setDrawn d0) hx hb hX hsb hsA hS (vp_in_nI (by omega) (by omega)) dL_law_35 ?_
    refine lv_bipush (v := 31) hx hb dL_law_36 (by decide) ?_
    refine lv_iand hx hb dL_law_38 ?_
    refine lv_topi (fun w ew => ?_)
    clear ew
    by_cases s_0 : w = 0
    · subst s_0
      refine lv_tableIn (off := 81) (tgt := 120) hx hb dL_law_39 (by decide) (by decide) (by decide) (by decide) ?_
      exact lw_op_come Xd I hb9 hi5 hL hP hD hS hl (by omega) (by omega) (fun N1 mn1 th1 K1 P1 M1 f1 H locs ls => step d0 N1 mn1 th1 K1 P1 M1 f1 H locs ls hd0)
    by_cases s_1 : w = 1
    · subst s_1
      refine lv_tableIn (off := 137) (tgt := 176) hx hb dL_law_39 (by decide) (by decide) (by decide) (by decide) ?_
      exact lw_op_gear Xd I hb9 hi5 hL hP hD hS hl (by omega) (by omega) (fun N1 mn1 th1 K1 P1 M1 f1 H locs ls => step d0 N1 mn1 th1 K1 P1 M1 f1 H locs ls hd0)
    by_cases s_2 : w = 2
    · subst s_2
      refine lv_tableIn (off := 229) (tgt := 268) hx hb dL_law_39 (by decide) (by decide) (by decide) (by decide) ?_
      exact lw_op_set Xd I hb9 hi5 hL hP hD hS hl (by omega) (by omega) (fun N1 mn1 th1 K1 P1 M1 f1 H locs ls => step d0 N1 mn1 th1 K1 P1 M1 f1 H locs ls hd0)
    by_cases s_3 : w = 3
    · subst s_3
      refine lv_tableIn (off := 297) (tgt := 336) hx hb dL_law_39 (by decide) (by decide) (by decide) (by decide) ?_
      exact lw_op_wind Xd I hb9 hi5 hL hP hD hS hl (by omega) (by omega) (fun N1 mn1 th1 K1 P1 M1 f1 H locs ls => step d0 N1 mn1 th1 K1 P1 M1 f1 H locs ls hd0)
    by_cases s_4 : w = 4
    · subst s_4
      refine lv_tableIn (off := 353) (tgt := 392) hx hb dL_law_39 (by decide) (by decide) (by decide) (by decide) ?_
      exact lw_op_mend Xd I hb9 hi5 hL hP hD hS hl (by omega) (by omega) (fun N1 mn1 th1 K1 P1 M1 f1 H locs ls => step d0 N1 mn1 th1 K1 P1 M1 f1 H locs ls hd0)
    by_cases s_5 : w = 5
    · subst s_5
      refine lv_tableIn (off := 421) (tgt := 460) hx hb dL_law_39 (by decide) (by decide) (by decide) (by decide) ?_
      exact lw_op_shut Xd I hb9 hi5 hL hP hD hS hl (by omega) (by omega) (fun N1 mn1 th1 K1 P1 M1 f1 H locs ls => step d0 N1 mn1 th1 K1 P1 M1 f1 H locs ls hd0)
    by_cases s_6 : w = 6
    · subst s_6
      refine lv_tableIn (off := 501) (tgt := 540) hx hb dL_law_39 (by decide) (by decide) (by decide) (by decide) ?_
      exact lw_op_clock Xd I hb9 hi5 hL hP hD hS hl (by omega) (by omega) (fun N1 mn1 th1 K1 P1 M1 f1 H locs ls => step d0 N1 mn1 th1 K1 P1 M1 f1 H locs ls hd0)
    by_cases s_7 : w = 7
    · subst s_7
      refine lv_tableIn (off := 569) (tgt := 608) hx hb dL_law_39 (by decide) (by decide) (by decide) (by decide) ?_
      exact lw_op_off Xd I hb9 hi5 hL hP hD hS hl (by omega) (by omega) (fun N1 mn1 th1 K1 P1 M1 f1 H locs ls => step d0 N1 mn1 th1 K1 P1 M1 f1 H locs ls hd0)
    by_cases s_8 : w = 8
    · subst s_8
      refine lv_tableIn (off := 625) (tgt := 664) hx hb dL_law_39 (by decide) (by decide) (by decide) (by decide) ?_
      exact lw_op_count Xd I hb9 hi5 hL hP hD hS hl (by omega) (by omega) (fun N1 mn1 th1 K1 P1 M1 f1 H locs ls => step d0 N1 mn1 th1 K1 P1 M1 f1 H locs ls hd0)
    by_cases s_9 : w = 9
    · subst s_9
      refine lv_tableIn (off := 681) (tgt := 720) hx hb dL_law_39 (by decide) (by decide) (by decide) (by decide) ?_
      exact lw_op_pass Xd I hb9 hi5 hL hP hD hS hl (by omega) (by omega) (fun N1 mn1 th1 K1 P1 M1 f1 H locs ls => step d0 N1 mn1 th1 K1 P1 M1 f1 H locs ls hd0)
    by_cases s_10 : w = 10
    · subst s_10
      refine lv_tableIn (off := 737) (tgt := 776) hx hb dL_law_39 (by decide) (by decide) (by decide) (by decide) ?_
      exact lw_op_next Xd I hb9 hi5 hL hP hD hS hl (by omega) (by omega) (fun N1 mn1 th1 K1 P1 M1 f1 H locs ls => step d0 N1 mn1 th1 K1 P1 M1 f1 H locs ls hd0)
    by_cases s_11 : w = 11
    · subst s_11
      refine lv_tableIn (off := 793) (tgt := 832) hx hb dL_law_39 (by decide) (by decide) (by decide) (by decide) ?_
      exact lw_op_stands Xd I hb9 hi5 hL hP hD hS hl (by omega) (by omega) (fun N1 mn1 th1 K1 P1 M1 f1 H locs ls => step d0 N1 mn1 th1 K1 P1 M1 f1 H locs ls hd0)
    by_cases s_12 : w = 12
    · subst s_12
      refine lv_tableIn (off := 849) (tgt := 888) hx hb dL_law_39 (by decide) (by decide) (by decide) (by decide) ?_
      exact lw_op_loudest Xd I hb9 hi5 hL hP hD hS hl (by omega) (by omega) (fun N1 mn1 th1 K1 P1 M1 f1 H locs ls => step d0 N1 mn1 th1 K1 P1 M1 f1 H locs ls hd0)
    by_cases s_13 : w = 13
    · subst s_13
      refine lv_tableIn (off := 905) (tgt := 944) hx hb dL_law_39 (by decide) (by decide) (by decide) (by decide) ?_
      exact lw_op_foresee Xd I hb9 hi5 hL hP hD hS hl (by omega) (by omega) (fun N1 mn1 th1 K1 P1 M1 f1 H locs ls => step d0 N1 mn1 th1 K1 P1 M1 f1 H locs ls hd0)
    by_cases s_14 : w = 14
    · subst s_14
      refine lv_tableIn (off := 973) (tgt := 1012) hx hb dL_law_39 (by decide) (by decide) (by decide) (by decide) ?_
      exact lw_op_advise Xd I hb9 hi5 hL hP hD hS hl (by omega) (by omega) (fun N1 mn1 th1 K1 P1 M1 f1 H locs ls => step d0 N1 mn1 th1 K1 P1 M1 f1 H locs ls hd0)
    by_cases s_15 : w = 15
    · subst s_15
      refine lv_tableIn (off := 1029) (tgt := 1068) hx hb dL_law_39 (by decide) (by decide) (by decide) (by decide) ?_
      exact lw_op_mean hd0 X I hb9 hi5 hL hP hD hS hl (by omega) (by omega) (fun d1 N1 mn1 th1 K1 P1 M1 f1 H locs ls hd1 => step d1 N1 mn1 th1 K1 P1 M1 f1 H locs ls hd1)
    by_cases s_16 : w = 16
    · subst s_16
      refine lv_tableIn (off := 1070) (tgt := 1109) hx hb dL_law_39 (by decide) (by decide) (by decide) (by decide) ?_
      exact lw_op_digest Xd I hb9 hi5 hL hP hD hS hl (by omega) (by omega) (fun N1 mn1 th1 K1 P1 M1 f1 H locs ls => step d0 N1 mn1 th1 K1 P1 M1 f1 H locs ls hd0)
    refine lv_tableOut (tgt := 1123) hx hb dL_law_39 (by have q_0 := cu_ne s_0 0 (by decide); have q_1 := cu_ne s_1 1 (by decide); have q_2 := cu_ne s_2 2 (by decide); have q_3 := cu_ne s_3 3 (by decide); have q_4 := cu_ne s_4 4 (by decide); have q_5 := cu_ne s_5 5 (by decide); have q_6 := cu_ne s_6 6 (by decide); have q_7 := cu_ne s_7 7 (by decide); have q_8 := cu_ne s_8 8 (by decide); have q_9 := cu_ne s_9 9 (by decide); have q_10 := cu_ne s_10 10 (by decide); have q_11 := cu_ne s_11 11 (by decide); have q_12 := cu_ne s_12 12 (by decide); have q_13 := cu_ne s_13 13 (by decide); have q_14 := cu_ne s_14 14 (by decide); have q_15 := cu_ne s_15 15 (by decide); have q_16 := cu_ne s_16 16 (by decide); omega) (by decide) ?_
    refine W.widen (k := 30 + 6 * b + 6) (n := 600 + 170 * b + 170) (by omega) (by omega) ?_
    exact step d0 N mn th K P M f _ _ _ hd0 I.next hP hD hS hl
