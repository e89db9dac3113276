/-! the law: forty-four times -/
set_option maxHeartbeats 4000000 in
set_option maxRecDepth 100000 in
theorem lw_loop {p : Program} {l : Launch} {e : Env} {s : State} {m : MethodId} {args : Array Value} {below : List Frame} {meth : Method} {c : Code} {A : Nat → Prop} {Z : State → Prop} {H0 : Heap} {D : va_G} {C : Nat → ClassId} {sb L : Nat} {xs : Nat → Int32} {a : Nat → Nat} {o : Nat} (XC : lw_cx p l s m args c A H0 D C sb L xs)
    (fin : ∀ (d0 : Drawn) (N r : Nat) (g : Nat → Nat) (mn : Int32) (K P : Nat → Nat → Int32) (H : Heap) (locs : List Loc) (ls : Array Slot), s.drawn.sameBut d0 lw_cs → k_in N mn K 4444 → va_P D vwCl (cu_cw C a (nI N) mn K P ++ cu_sm C o r g N mn K) H → va_D A (cu_cw C a (nI N) mn K P ++ cu_sm C o r g N mn K) → va_S A H0 H locs → lv_has ls 26 [(3, .int (nI 44)), (2, .ref o), (1, .ref (a 0)), (0, .ref sb)] → W p l e room_1 (s.setDrawn d0) m args below meth c H locs 50000 300000 Z (F0 m 1015 ls [])) :
    ∀ (j t : Nat), t + j = 44 → ∀ (d0 : Drawn) (N r : Nat) (g : Nat → Nat) (mn : Int32) (K P : Nat → Nat → Int32) (H : Heap) (locs : List Loc) (ls : Array Slot), s.drawn.sameBut d0 lw_cs → k_in N mn K (101 * t) → va_P D vwCl (cu_cw C a (nI N) mn K P ++ cu_sm C o r g N mn K) H → va_D A (cu_cw C a (nI N) mn K P ++ cu_sm C o r g N mn K) → va_S A H0 H locs → lv_has ls 26 [(3, .int (nI t)), (2, .ref o), (1, .ref (a 0)), (0, .ref sb)] → W p l e room_1 (s.setDrawn d0) m args below meth c H locs (200 + 1000 * t) (2000 + 6000 * t) Z (F0 m 22 ls []) := by
  intro j
  induction j with
  | zero =>
    intro t ht d0 N r g mn K P H locs ls hd0 I hP hD hS hl
    have et : t = 44 := by omega
    subst et
    obtain ⟨hx, hb, hml, hts, hown, hG, hT, hX, hbl, hbA, hA, hlf, hL⟩ := XC
    refine lv_iload_n hx hb dL_law_22 rfl (lv_at hl 0 rfl) ?_
    refine lv_bipush (v := 44) hx hb dL_law_23 (by decide) ?_
    refine lv_icmp_ge (tgt := 1015) hx hb dL_law_25 (by decide) (fun _ => ?_) (fun z => absurd (nI_le (a := 44) (by omega) (by omega)) z)
    refine W.widen (k := 50000) (n := 300000) (by omega) (by omega) ?_
    exact fin d0 N r g mn K P _ _ _ hd0 (k_in_T I (by omega)) hP hD hS hl
  | succ j ih =>
    intro t ht d0 N r g mn K P H locs ls hd0 I hP hD hS hl
    have XD := XC.drawn d0
    have XC' := XC
    obtain ⟨hx, hb, hml, hts, hown, hG, hT, hX, hbl, hbA, hA, hlf, hL⟩ := XC'
    refine lv_iload_n hx hb dL_law_22 rfl (lv_at hl 0 rfl) ?_
    refine lv_bipush (v := 44) hx hb dL_law_23 (by decide) ?_
    refine lv_icmp_ge (tgt := 1015) hx hb dL_law_25 (by decide) (fun z => absurd z (nI_ge (b := 44) (by omega) (by decide))) (fun _ => ?_)
    refine lw_s1 XD I (by omega) (by omega) (by omega) hP hD hS hl (fun x N r g mn K H locs ls I hP hD hS hl => ?_)
    refine lw_s2 XD I (by omega) (by omega) hP hD hS hl (fun F Xf Yf P q rr nx sd H locs ls hF hXf hYf hP hD hS hl => ?_)
    refine lw_s3 XD I (by omega) (by omega) (by omega) hP hD hS hl (fun P H locs ls I9 hP hD hS hl => ?_)
    refine lw_s4 XD I I9 (by omega) hF hXf hYf (by omega) (by omega) hP hD hS hl (fun P x15 x16 x17 H locs ls h15 h16 h17 hP hD hS hl => ?_)
    refine lw_s5 XC hd0 I.1 (by omega) h15 h16 h17 rfl (by omega) (by omega) hP hD hS hl (fun d1 H locs ls hd1 hP hD hS hl => ?_)
    obtain ⟨hP, hD⟩ := cu_less (W1 := cu_cw C a (nI N) (mn + 1) (k_nx N mn K) P ++ cu_sm C o r g N (mn + 1) (k_nx N mn K)) (List.Sublist.append (List.Sublist.refl _) (List.sublist_append_left _ _)) hP hD
    refine W.widen (k := 200 + 1000 * (t + 1)) (n := 2000 + 6000 * (t + 1)) (by omega) (by omega) ?_
    exact ih (t + 1) (by omega) d1 N r g (mn + 1) (k_nx N mn K) P _ _ _ hd1 (k_in_T I9 (by omega)) hP hD hS hl
