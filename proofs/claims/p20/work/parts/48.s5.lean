/-! the law: all clocks together, and the next thing -/
set_option maxHeartbeats 4000000 in
set_option maxRecDepth 100000 in
theorem lw_s5 {p : Program} {l : Launch} {e : Env} {s : State} {m : MethodId} {args : Array Value} {below : List Frame} {meth : Method} {c : Code} {A : Nat → Prop} {Z : State → Prop} {H0 H : Heap} {locs : List Loc} {ls : Array Slot} {D : va_G} {C : Nat → ClassId} {sb L cells slots : Nat} {xs : Nat → Int32} {a : Nat → Nat} {o N t : Nat} {mn its mi go x15 x16 x17 : Int32} {K P : Nat → Nat → Int32} {R9 : va_W} (XC : lw_cx p l s m args c A H0 D C sb L xs) {d0 : Drawn} (hd0 : s.drawn.sameBut d0 lw_cs) (hN : N ≤ 10) (ht : t < 44) (h15 : x15 = its) (h16 : x16 = mi) (h17 : x17 = k_advSum N K) (hgo : go = k_goSum N K) (hc : cells ≤ 600104) (hs : slots ≤ 7301314) (hP : va_P D vwCl (cu_cw C a (nI N) mn K P ++ R9) H) (hD : va_D A (cu_cw C a (nI N) mn K P ++ R9)) (hS : va_S A H0 H locs) (hl : lv_has ls 26 [(0, .ref sb), (1, .ref (a 0)), (2, .ref o), (3, .int (nI t)), (11, .int mi), (12, .int go), (14, .int its), (15, .int x15), (16, .int x16), (17, .int x17)])
    (kk : ∀ (d1 : Drawn) (H : Heap) (locs : List Loc) (ls : Array Slot), s.drawn.sameBut d1 lw_cs → va_P D vwCl (cu_cw C a (nI N) mn K P ++ R9) H → va_D A (cu_cw C a (nI N) mn K P ++ R9) → va_S A H0 H locs → lv_has ls 26 [(3, .int (nI (t + 1))), (2, .ref o), (1, .ref (a 0)), (0, .ref sb)] → W p l e room_1 (s.setDrawn d1) m args below meth c H locs cells slots Z (F0 m 22 ls [])) : W p l e room_1 (s.setDrawn d0) m args below meth c H locs cells slots Z (F0 m 969 ls []) := by
  obtain ⟨hx, hb, hml, hts, hown, hG, hT, hX, hbl, hbA, hA, hlf, hL⟩ := XC
  refine lv_iload hx hb dL_law_969 (lv_at hl 7 rfl) ?_
  refine lv_iload hx hb dL_law_971 (lv_at hl 6 rfl) ?_
  refine lv_icmp_ne (tgt := 1007) hx hb dL_law_973 (by decide) (fun z => absurd h15 z) (fun _ => ?_)
  refine lv_iload hx hb dL_law_976 (lv_at hl 8 rfl) ?_
  refine lv_iload hx hb dL_law_978 (lv_at hl 4 rfl) ?_
  refine lv_icmp_ne (tgt := 1007) hx hb dL_law_980 (by decide) (fun z => absurd h16 z) (fun _ => ?_)
  refine lv_aload_n hx hb dL_law_983 rfl (lv_at hl 1 rfl) ?_
  have sp := cu_sp.inL (Y := R9) (cu_sp.all (W0 := cu_cw C a (nI N) mn K P) (W1 := cu_cw C a (nI N) mn K P) rfl)
  refine cu_callD hd0 (va_runV_D (As := []) (rest := []) ⟨hx, hb, hml, hown, dr_words hts _⟩ ((m_X1_mean l D C a N hN mn K P) H.size) (cwV 0 (dr_words hts _) gL_law_X1_mean rfl rfl rfl (by decide +kernel) ⟨Nat.le_of_ble_eq_true rfl, Nat.le_of_ble_eq_true rfl⟩) (cu_preV (ci := 1) sp (cu_G.same rfl hG) hP hD rfl rfl) rfl rfl hl.1 rfl (lv_room (Nat.le_of_ble_eq_true rfl)) dL_law_984 ⟨by show cells + 0 ≤ 600104; omega, by show slots + 0 ≤ 7301314; omega⟩) sp hP hD hS hA (fun r1 H locs d1 hd1 ha1 hP hD hS => ?_)
  refine lv_iload hx hb dL_law_987 (lv_at hl 5 rfl) ?_
  have J : ∀ (d2 : Drawn) (r2 : UInt64), s.drawn.sameBut d2 lw_cs → alike64 r2 (k_mean N K) = true → W p l e room_1 (s.setDrawn d2) m args below meth c H locs (cells + 0) (slots + 0) Z (F0 m 1003 ls [.double r2, .double r1]) := by
    intro d2 r2 hd2 ha2
    refine lv_dcmp hx hb dL_law_1003 ?_
    refine lv_if_eq (tgt := 1009) hx hb dL_law_1004 (by decide) (fun _ => ?_) (fun z => absurd (k_mean_same ha1 ha2) z)
    refine lv_iinc (v := nI (t + 1)) (lv' := [(3, .int (nI (t + 1))), (0, .ref sb), (1, .ref (a 0)), (2, .ref o), (11, .int mi), (12, .int go), (14, .int its), (15, .int x15), (16, .int x16), (17, .int x17)]) hx hb dL_law_1009 hl (k := 3) rfl (nI_1 t) (by decide) rfl (fun ls hl => ?_)
    refine lv_goto (tgt := 22) hx hb dL_law_1012 (by decide) ?_
    exact kk d2 _ _ _ hd2 hP hD hS (lv_sub hl [0, 3, 2, 1] rfl)
  refine lv_if_ne (tgt := 996) hx hb dL_law_989 (by decide) (fun z => ?_) (fun z => ?_)
  · refine lv_iload hx hb dL_law_996 (lv_at hl 9 rfl) ?_
    refine lv_i2d hx hb dL_law_998 ?_
    refine lv_iload hx hb dL_law_999 (lv_at hl 5 rfl) ?_
    refine lv_i2d hx hb dL_law_1001 ?_
    refine lv_ddiv_any hd1 lw_bits hx hb dL_law_1002 (fun r2 d2 hal hd2 => ?_)
    exact J d2 r2 hd2 (by rw [hgo] at z; rw [k_mean_r z, ← h17, ← hgo]; exact hal)
  · refine lv_dconst0 hx hb dL_law_992 ?_
    refine lv_goto (tgt := 1003) hx hb dL_law_993 (by decide) ?_
    exact J d1 _ hd1 (by rw [hgo] at z; rw [k_mean_0 z]; exact cu_al _)
