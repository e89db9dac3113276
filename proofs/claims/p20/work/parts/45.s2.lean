/-! the law: rows of what each clock tells -/
set_option maxHeartbeats 4000000 in
set_option maxRecDepth 100000 in
theorem lw_s2 {p : Program} {l : Launch} {e : Env} {s : State} {m : MethodId} {args : Array Value} {below : List Frame} {meth : Method} {c : Code} {A : Nat → Prop} {Z : State → Prop} {H0 H : Heap} {locs : List Loc} {ls : Array Slot} {D : va_G} {C : Nat → ClassId} {sb L cells slots : Nat} {xs : Nat → Int32} {a : Nat → Nat} {o r : Nat} {g : Nat → Nat} {N t : Nat} {mn : Int32} {K P : Nat → Nat → Int32} (XC : lw_cx p l s m args c A H0 D C sb L xs) {x : Int32} {T : Nat} (I : k_in N mn K T) (hc : cells + 300 ≤ 600104) (hs : slots + 2000 ≤ 7301314) (hP : va_P D vwCl ((cu_cw C a (nI N) mn K P) ++ (cu_sm C o r g N mn K)) H) (hD : va_D A ((cu_cw C a (nI N) mn K P) ++ (cu_sm C o r g N mn K))) (hS : va_S A H0 H locs) (hl : lv_has ls 26 [(0, .ref sb), (1, .ref (a 0)), (2, .ref o), (3, .int (nI t)), (4, .int x)])
    (kk : ∀ (F : Nat → Nat → Int32) (Xf Yf : Nat → Int32) (P : Nat → Nat → Int32) (q : Nat) (rr : Nat → Nat) (nx sd : Nat) (H : Heap) (locs : List Loc) (ls : Array Slot), (∀ c, c < N → ∀ w, w < 11 → F c w = k_read (K c) (nI w)) → (∀ c, c < N → Xf c = k_next mn (K c)) → (∀ c, c < N → Yf c = k_stand (K c)) → va_P D vwCl ((cu_cw C a (nI N) mn K P) ++ ((cu_sm C o r g N mn K) ++ ((cu_ro C q rr N) ++ ((cu_rw C rr N F) ++ ([(nx, .inl (C 0, N, .inl Xf))] ++ [(sd, .inl (C 0, N, .inl Yf))]))))) H → va_D A ((cu_cw C a (nI N) mn K P) ++ ((cu_sm C o r g N mn K) ++ ((cu_ro C q rr N) ++ ((cu_rw C rr N F) ++ ([(nx, .inl (C 0, N, .inl Xf))] ++ [(sd, .inl (C 0, N, .inl Yf))]))))) → va_S A H0 H locs → lv_has ls 26 [(0, .ref sb), (1, .ref (a 0)), (2, .ref o), (3, .int (nI t)), (4, .int x), (5, .int (nI N)), (6, .ref q), (7, .ref nx), (8, .ref sd)] → W p l e room_1 s m args below meth c H locs (cells + 300) (slots + 2000) Z (F0 m 210 ls [])) : W p l e room_1 s m args below meth c H locs cells slots Z (F0 m 111 ls []) := by
  obtain ⟨hx, hb, hml, hts, hown, hG, hT, hX, hbl, hbA, hA, hlf, hL⟩ := XC
  have hK := hG.1
  have hN := I.1
  have hiX3 := inlX3
  have hiX2 := inlX2
  refine lv_aload_n hx hb dL_law_111 rfl (lv_at hl 1 rfl) ?_
  refine lv_iconst (v := 2) hx hb dL_law_112 (by decide) ?_
  have sp := (cu_sp.inL (Y := (cu_sm C o r g N mn K)) (cu_sp.all (W0 := (cu_cw C a (nI N) mn K P)) (W1 := (cu_cw C a (nI N) mn K P)) rfl))
  refine cu_callXI (vx_runV (As := [.int 2]) (rest := []) ⟨hx, hb, hml, hown, hts⟩ ((n_count l hlf D C a N hN mn K P 2 (by decide)) H.size) (cwV 1 hts gL_law_X1_count rfl rfl rfl (by decide +kernel) ⟨Nat.le_of_ble_eq_true rfl, Nat.le_of_ble_eq_true rfl⟩) (cu_preXV (ci := 1) sp hG hP hD hT hS hA rfl rfl) rfl rfl hl.1 rfl (lv_room (Nat.le_of_ble_eq_true rfl)) dL_law_113 ⟨by show (cells + 0) + 1 ≤ 600104; omega, by show (slots + 0) + 6 ≤ 7301314; omega⟩) sp hP hD hS hA (fun E _ _ _ _ hoE _ _ _ _ _ _ => by cases hoE) (fun H locs _ hP hD hS => ?_)
  have hP : va_P D vwCl ((cu_cw C a (nI N) mn K P) ++ (cu_sm C o r g N mn K)) H := hP
  have hD : va_D A ((cu_cw C a (nI N) mn K P) ++ (cu_sm C o r g N mn K)) := hD
  refine cu_top (x' := nI N) rfl ?_
  refine lv_istore (lv' := [(5, .int (nI N)), (0, .ref sb), (1, .ref (a 0)), (2, .ref o), (3, .int (nI t)), (4, .int x)]) hx hb dL_law_116 hl (by decide) rfl (fun ls hl => ?_)
  refine lv_iload hx hb dL_law_118 (lv_at hl 0 rfl) ?_
  refine lv_bipush (v := 11) hx hb dL_law_120 (by decide) ?_
  refine cu_mna hx hb hown (hts (.classLink RL 116 "[[I") (by decide +kernel)) hG (hts (.arrayClass .int) (by decide +kernel)) hP hD hS hA hN (by show (cells + 1) + (1 + N) ≤ 600104; omega) (by show (slots + 6) + (N + N * 11) ≤ 7301314; omega) dL_law_122 (fun q rr H hP hD hS => ?_)
  simp only [List.append_assoc] at hP hD
  have hP : va_P D vwCl ((cu_cw C a (nI N) mn K P) ++ ((cu_sm C o r g N mn K) ++ ((cu_ro C q rr N) ++ (cu_rw C rr N (fun _ _ => 0))))) H := hP
  have hD : va_D A ((cu_cw C a (nI N) mn K P) ++ ((cu_sm C o r g N mn K) ++ ((cu_ro C q rr N) ++ (cu_rw C rr N (fun _ _ => 0))))) := hD
  refine lv_astore (lv' := [(6, .ref q), (5, .int (nI N)), (0, .ref sb), (1, .ref (a 0)), (2, .ref o), (3, .int (nI t)), (4, .int x)]) hx hb dL_law_126 hl (by decide) rfl (fun ls hl => ?_)
  refine lv_iload hx hb dL_law_128 (lv_at hl 1 rfl) ?_
  refine cu_newI hx hb (hts (.arrayClass .int) (by decide +kernel)) hK hP hD hS hA (N' := N) (nI_nneg (by omega)) (nI_clamp (by omega)) (by show N * 4 ≤ 536870912; omega) (by show ((cells + 1) + 1 + N + 0) + 1 ≤ 600104; omega) (by show ((slots + 6) + N + N * 11 + 0) + N ≤ 7301314; omega) dL_law_130 (fun q1 H hP hD hS => ?_)
  simp only [List.append_assoc] at hP hD
  have hP : va_P D vwCl ((cu_cw C a (nI N) mn K P) ++ ((cu_sm C o r g N mn K) ++ ((cu_ro C q rr N) ++ ((cu_rw C rr N (fun _ _ => 0)) ++ [(q1, .inl (C 0, N, .inl (fun _ => 0)))])))) H := hP
  have hD : va_D A ((cu_cw C a (nI N) mn K P) ++ ((cu_sm C o r g N mn K) ++ ((cu_ro C q rr N) ++ ((cu_rw C rr N (fun _ _ => 0)) ++ [(q1, .inl (C 0, N, .inl (fun _ => 0)))])))) := hD
  refine lv_astore (lv' := [(7, .ref q1), (6, .ref q), (5, .int (nI N)), (0, .ref sb), (1, .ref (a 0)), (2, .ref o), (3, .int (nI t)), (4, .int x)]) hx hb dL_law_132 hl (by decide) rfl (fun ls hl => ?_)
  refine lv_iload hx hb dL_law_134 (lv_at hl 2 rfl) ?_
  refine cu_newI hx hb (hts (.arrayClass .int) (by decide +kernel)) hK hP hD hS hA (N' := N) (nI_nneg (by omega)) (nI_clamp (by omega)) (by show N * 4 ≤ 536870912; omega) (by show ((cells + 1) + 1 + N + 1) + 1 ≤ 600104; omega) (by show ((slots + 6) + N + N * 11 + 0 + N + 0) + N ≤ 7301314; omega) dL_law_136 (fun q2 H hP hD hS => ?_)
  simp only [List.append_assoc] at hP hD
  have hP : va_P D vwCl ((cu_cw C a (nI N) mn K P) ++ ((cu_sm C o r g N mn K) ++ ((cu_ro C q rr N) ++ ((cu_rw C rr N (fun _ _ => 0)) ++ ([(q1, .inl (C 0, N, .inl (fun _ => 0)))] ++ [(q2, .inl (C 0, N, .inl (fun _ => 0)))]))))) H := hP
  have hD : va_D A ((cu_cw C a (nI N) mn K P) ++ ((cu_sm C o r g N mn K) ++ ((cu_ro C q rr N) ++ ((cu_rw C rr N (fun _ _ => 0)) ++ ([(q1, .inl (C 0, N, .inl (fun _ => 0)))] ++ [(q2, .inl (C 0, N, .inl (fun _ => 0)))]))))) := hD
  refine lv_astore (lv' := [(8, .ref q2), (7, .ref q1), (6, .ref q), (5, .int (nI N)), (0, .ref sb), (1, .ref (a 0)), (2, .ref o), (3, .int (nI t)), (4, .int x)]) hx hb dL_law_138 hl (by decide) rfl (fun ls hl => ?_)
  refine lv_iconst (v := 0) hx hb dL_law_140 (by decide) ?_
  refine lv_istore (lv' := [(9, .int 0), (8, .ref q2), (7, .ref q1), (6, .ref q), (5, .int (nI N)), (0, .ref sb), (1, .ref (a 0)), (2, .ref o), (3, .int (nI t)), (4, .int x)]) hx hb dL_law_141 hl (by decide) rfl (fun ls hl => ?_)
  have outer : ∀ (j : Nat), ∀ (i : Nat) (F : Nat → Nat → Int32) (Xf Yf : Nat → Int32) (P : Nat → Nat → Int32), i + j = N → (∀ c, c < i → ∀ w, w < 11 → F c w = k_read (K c) (nI w)) → (∀ c, c < i → Xf c = k_next mn (K c)) → (∀ c, c < i → Yf c = k_stand (K c)) → ∀ (H : Heap) (locs : List Loc) (ls : Array Slot), va_P D vwCl ((cu_cw C a (nI N) mn K P) ++ ((cu_sm C o r g N mn K) ++ ((cu_ro C q rr N) ++ ((cu_rw C rr N F) ++ ([(q1, .inl (C 0, N, .inl Xf))] ++ [(q2, .inl (C 0, N, .inl Yf))]))))) H → va_D A ((cu_cw C a (nI N) mn K P) ++ ((cu_sm C o r g N mn K) ++ ((cu_ro C q rr N) ++ ((cu_rw C rr N F) ++ ([(q1, .inl (C 0, N, .inl Xf))] ++ [(q2, .inl (C 0, N, .inl Yf))]))))) → va_S A H0 H locs → lv_has ls 26 [(0, .ref sb), (1, .ref (a 0)), (2, .ref o), (3, .int (nI t)), (4, .int x), (5, .int (nI N)), (6, .ref q), (7, .ref q1), (8, .ref q2), (9, .int (nI i))] → W p l e room_1 s m args below meth c H locs (((cells + 1) + 1 + N + 2) + 24 * i) (((slots + 6) + N + N * 11 + 0 + N + 0 + N + 0) + 144 * i) Z (F0 m 143 ls []) := by
    intro j
    induction j with
    | zero =>
      intro i F Xf Yf P hj hF hXf hYf H locs ls hP hD hS hl
      have eN : i = N := by omega
      subst eN
      refine lv_iload hx hb dL_law_143 (lv_at hl 9 rfl) ?_
      refine lv_iload hx hb dL_law_145 (lv_at hl 5 rfl) ?_
      refine lv_icmp_ge (tgt := 210) hx hb dL_law_147 (by decide) (fun c_147 => ?_) (fun c_147 => absurd (nI_le (a := i) (by omega) (by omega)) c_147)
      refine W.widen (k := cells + 300) (n := slots + 2000) (by omega) (by omega) ?_
      exact kk F Xf Yf P q rr q1 q2 _ _ _ hF hXf hYf hP hD hS (lv_sub hl [0, 1, 2, 3, 4, 5, 6, 7, 8] rfl)
    | succ j ihouter =>
      intro i F Xf Yf P hj hF hXf hYf H locs ls hP hD hS hl
      have hi : i < N := by omega
      refine lv_iload hx hb dL_law_143 (lv_at hl 9 rfl) ?_
      refine lv_iload hx hb dL_law_145 (lv_at hl 5 rfl) ?_
      refine lv_icmp_ge (tgt := 210) hx hb dL_law_147 (by decide) (fun c_147 => absurd c_147 (nI_ge (b := N) (by omega) (by omega))) (fun c_147 => ?_)
      refine lv_iconst (v := 0) hx hb dL_law_150 (by decide) ?_
      refine lv_istore (lv' := [(10, .int 0), (0, .ref sb), (1, .ref (a 0)), (2, .ref o), (3, .int (nI t)), (4, .int x), (5, .int (nI N)), (6, .ref q), (7, .ref q1), (8, .ref q2), (9, .int (nI i))]) hx hb dL_law_151 hl (by decide) rfl (fun ls hl => ?_)
      have inner : ∀ (jw : Nat), ∀ (w : Nat) (F : Nat → Nat → Int32), w + jw = 11 → (∀ c, c < i → ∀ w, w < 11 → F c w = k_read (K c) (nI w)) → (∀ v, v < w → F i v = k_read (K i) (nI v)) → ∀ (H : Heap) (locs : List Loc) (ls : Array Slot), va_P D vwCl ((cu_cw C a (nI N) mn K P) ++ ((cu_sm C o r g N mn K) ++ ((cu_ro C q rr N) ++ ((cu_rw C rr N F) ++ ([(q1, .inl (C 0, N, .inl Xf))] ++ [(q2, .inl (C 0, N, .inl Yf))]))))) H → va_D A ((cu_cw C a (nI N) mn K P) ++ ((cu_sm C o r g N mn K) ++ ((cu_ro C q rr N) ++ ((cu_rw C rr N F) ++ ([(q1, .inl (C 0, N, .inl Xf))] ++ [(q2, .inl (C 0, N, .inl Yf))]))))) → va_S A H0 H locs → lv_has ls 26 [(0, .ref sb), (1, .ref (a 0)), (2, .ref o), (3, .int (nI t)), (4, .int x), (5, .int (nI N)), (6, .ref q), (7, .ref q1), (8, .ref q2), (9, .int (nI i)), (10, .int (nI w))] → W p l e room_1 s m args below meth c H locs ((((cells + 1) + 1 + N + 2) + 24 * i + 0) + 2 * w) ((((slots + 6) + N + N * 11 + 0 + N + 0 + N + 0) + 144 * i + 0) + 12 * w) Z (F0 m 153 ls []) := by
        intro jw
        induction jw with
        | zero =>
          intro w F hjw hF hFw H locs ls hP hD hS hl
          refine lv_iload hx hb dL_law_153 (lv_at hl 10 rfl) ?_
          refine lv_bipush (v := 11) hx hb dL_law_155 (by decide) ?_
          refine lv_icmp_ge (tgt := 182) hx hb dL_law_157 (by decide) (fun c_157 => ?_) (fun c_157 => absurd (nI_le (a := 11) (by omega) (by omega)) c_157)
          refine lv_aload hx hb dL_law_182 (lv_at hl 7 rfl) ?_
          refine lv_iload hx hb dL_law_184 (lv_at hl 9 rfl) ?_
          refine lv_aload_n hx hb dL_law_186 rfl (lv_at hl 1 rfl) ?_
          refine lv_iload hx hb dL_law_187 (lv_at hl 9 rfl) ?_
          have sp := (cu_sp.inL (Y := ((cu_sm C o r g N mn K) ++ ((cu_ro C q rr N) ++ ((cu_rw C rr N F) ++ ([(q1, .inl (C 0, N, .inl Xf))] ++ [(q2, .inl (C 0, N, .inl Yf))]))))) (cu_sp.all (W0 := (cu_cw C a (nI N) mn K P)) (W1 := (cu_cw C a (nI N) mn K (va_up P i (k_nextS mn (K i) 720 0)))) cu_cw_fst))
          refine cu_callXI (vx_runV (As := [.int (nI i)]) (rest := [.int (nI i), .ref q1]) ⟨hx, hb, hml, hown, hts⟩ ((n_next l hlf D C a N hN mn K P (k_in_5 I) i hi) H.size) (cwV 1 hts gL_law_X1_next rfl rfl rfl (by decide +kernel) ⟨Nat.le_of_ble_eq_true rfl, Nat.le_of_ble_eq_true rfl⟩) (cu_preXV (ci := 1) sp hG hP hD hT hS hA rfl rfl) rfl rfl hl.1 rfl (lv_room (Nat.le_of_ble_eq_true rfl)) dL_law_189 ⟨by show ((((cells + 1) + 1 + N + 2) + 24 * i + 0) + 2 * w + 0) + 1 ≤ 600104; omega, by show ((((slots + 6) + N + N * 11 + 0 + N + 0 + N + 0) + 144 * i + 0) + 12 * w + 0) + 6 ≤ 7301314; omega⟩) sp hP hD hS hA (fun E _ _ _ _ hoE _ _ _ _ _ _ => by cases hoE) (fun H locs _ hP hD hS => ?_)
          have hP : va_P D vwCl ((cu_cw C a (nI N) mn K (va_up P i (k_nextS mn (K i) 720 0))) ++ ((cu_sm C o r g N mn K) ++ ((cu_ro C q rr N) ++ ((cu_rw C rr N F) ++ ([(q1, .inl (C 0, N, .inl Xf))] ++ [(q2, .inl (C 0, N, .inl Yf))]))))) H := hP
          have hD : va_D A ((cu_cw C a (nI N) mn K (va_up P i (k_nextS mn (K i) 720 0))) ++ ((cu_sm C o r g N mn K) ++ ((cu_ro C q rr N) ++ ((cu_rw C rr N F) ++ ([(q1, .inl (C 0, N, .inl Xf))] ++ [(q2, .inl (C 0, N, .inl Yf))]))))) := hD
          refine cu_ast hx hb hK hP hD hS (i := i) (n := N) (x := (k_next mn (K i))) (f := Xf) (cu_sp.inR (X := (cu_cw C a (nI N) mn K (va_up P i (k_nextS mn (K i) 720 0)))) (cu_sp.inR (X := (cu_sm C o r g N mn K)) (cu_sp.inR (X := (cu_ro C q rr N)) (cu_sp.inR (X := (cu_rw C rr N F)) (cu_sp.inL (Y := [(q2, .inl (C 0, N, .inl Yf))]) (cu_sp.all (W0 := [(q1, .inl (C 0, N, .inl Xf))]) (W1 := [(q1, .inl (C 0, N, .inl (upd Xf i (k_next mn (K i)))))]) rfl)))))) (by omega) (by omega) dL_law_192 (fun H locs hP hD hS => ?_)
          have hP : va_P D vwCl ((cu_cw C a (nI N) mn K (va_up P i (k_nextS mn (K i) 720 0))) ++ ((cu_sm C o r g N mn K) ++ ((cu_ro C q rr N) ++ ((cu_rw C rr N F) ++ ([(q1, .inl (C 0, N, .inl (upd Xf i (k_next mn (K i)))))] ++ [(q2, .inl (C 0, N, .inl Yf))]))))) H := hP
          have hD : va_D A ((cu_cw C a (nI N) mn K (va_up P i (k_nextS mn (K i) 720 0))) ++ ((cu_sm C o r g N mn K) ++ ((cu_ro C q rr N) ++ ((cu_rw C rr N F) ++ ([(q1, .inl (C 0, N, .inl (upd Xf i (k_next mn (K i)))))] ++ [(q2, .inl (C 0, N, .inl Yf))]))))) := hD
          refine lv_aload hx hb dL_law_193 (lv_at hl 8 rfl) ?_
          refine lv_iload hx hb dL_law_195 (lv_at hl 9 rfl) ?_
          refine lv_aload_n hx hb dL_law_197 rfl (lv_at hl 1 rfl) ?_
          refine lv_iload hx hb dL_law_198 (lv_at hl 9 rfl) ?_
          have sp := (cu_sp.inL (Y := ((cu_sm C o r g N mn K) ++ ((cu_ro C q rr N) ++ ((cu_rw C rr N F) ++ ([(q1, .inl (C 0, N, .inl (upd Xf i (k_next mn (K i)))))] ++ [(q2, .inl (C 0, N, .inl Yf))]))))) (cu_sp.all (W0 := (cu_cw C a (nI N) mn K (va_up P i (k_nextS mn (K i) 720 0)))) (W1 := (cu_cw C a (nI N) mn K (va_up P i (k_nextS mn (K i) 720 0)))) rfl))
          refine cu_callXI (vx_runV (As := [.int (nI i)]) (rest := [.int (nI i), .ref q2]) ⟨hx, hb, hml, hown, hts⟩ ((n_stands l hlf D C a N hN mn K (va_up P i (k_nextS mn (K i) 720 0)) i hi) H.size) (cwV 1 hts gL_law_X1_stands rfl rfl rfl (by decide +kernel) ⟨Nat.le_of_ble_eq_true rfl, Nat.le_of_ble_eq_true rfl⟩) (cu_preXV (ci := 1) sp hG hP hD hT hS hA rfl rfl) rfl rfl hl.1 rfl (lv_room (Nat.le_of_ble_eq_true rfl)) dL_law_200 ⟨by show ((((cells + 1) + 1 + N + 2) + 24 * i + 0) + 2 * w + 1) + 1 ≤ 600104; omega, by show ((((slots + 6) + N + N * 11 + 0 + N + 0 + N + 0) + 144 * i + 0) + 12 * w + 6) + 6 ≤ 7301314; omega⟩) sp hP hD hS hA (fun E _ _ _ _ hoE _ _ _ _ _ _ => by cases hoE) (fun H locs _ hP hD hS => ?_)
          have hP : va_P D vwCl ((cu_cw C a (nI N) mn K (va_up P i (k_nextS mn (K i) 720 0))) ++ ((cu_sm C o r g N mn K) ++ ((cu_ro C q rr N) ++ ((cu_rw C rr N F) ++ ([(q1, .inl (C 0, N, .inl (upd Xf i (k_next mn (K i)))))] ++ [(q2, .inl (C 0, N, .inl Yf))]))))) H := hP
          have hD : va_D A ((cu_cw C a (nI N) mn K (va_up P i (k_nextS mn (K i) 720 0))) ++ ((cu_sm C o r g N mn K) ++ ((cu_ro C q rr N) ++ ((cu_rw C rr N F) ++ ([(q1, .inl (C 0, N, .inl (upd Xf i (k_next mn (K i)))))] ++ [(q2, .inl (C 0, N, .inl Yf))]))))) := hD
          refine cu_ast hx hb hK hP hD hS (i := i) (n := N) (x := (k_stand (K i))) (f := Yf) (cu_sp.inR (X := (cu_cw C a (nI N) mn K (va_up P i (k_nextS mn (K i) 720 0)))) (cu_sp.inR (X := (cu_sm C o r g N mn K)) (cu_sp.inR (X := (cu_ro C q rr N)) (cu_sp.inR (X := (cu_rw C rr N F)) (cu_sp.inR (X := [(q1, .inl (C 0, N, .inl (upd Xf i (k_next mn (K i)))))]) (cu_sp.all (W0 := [(q2, .inl (C 0, N, .inl Yf))]) (W1 := [(q2, .inl (C 0, N, .inl (upd Yf i (k_stand (K i)))))]) rfl)))))) (by omega) (by omega) dL_law_203 (fun H locs hP hD hS => ?_)
          have hP : va_P D vwCl ((cu_cw C a (nI N) mn K (va_up P i (k_nextS mn (K i) 720 0))) ++ ((cu_sm C o r g N mn K) ++ ((cu_ro C q rr N) ++ ((cu_rw C rr N F) ++ ([(q1, .inl (C 0, N, .inl (upd Xf i (k_next mn (K i)))))] ++ [(q2, .inl (C 0, N, .inl (upd Yf i (k_stand (K i)))))]))))) H := hP
          have hD : va_D A ((cu_cw C a (nI N) mn K (va_up P i (k_nextS mn (K i) 720 0))) ++ ((cu_sm C o r g N mn K) ++ ((cu_ro C q rr N) ++ ((cu_rw C rr N F) ++ ([(q1, .inl (C 0, N, .inl (upd Xf i (k_next mn (K i)))))] ++ [(q2, .inl (C 0, N, .inl (upd Yf i (k_stand (K i)))))]))))) := hD
          refine lv_iinc (v := (nI (i + 1))) (lv' := [(9, .int (nI (i + 1))), (0, .ref sb), (1, .ref (a 0)), (2, .ref o), (3, .int (nI t)), (4, .int x), (5, .int (nI N)), (6, .ref q), (7, .ref q1), (8, .ref q2), (10, .int (nI w))]) hx hb dL_law_204 hl (k := 9) rfl (nI_1 i) (by decide) rfl (fun ls hl => ?_)
          refine lv_goto (tgt := 143) hx hb dL_law_207 (by decide) ?_
          have ew : w = 11 := by omega
          subst ew
          refine W.widen (k := ((cells + 1) + 1 + N + 2) + 24 * (i + 1)) (n := ((slots + 6) + N + N * 11 + 0 + N + 0 + N + 0) + 144 * (i + 1)) (by omega) (by omega) ?_
          exact ihouter (i + 1) F _ _ _ (by omega) (fun c hc => by
              by_cases e9 : c = i
              · subst e9; exact hFw
              · exact hF c (by omega)) (fun c hc => by
              by_cases e9 : c = i
              · subst e9; exact upd_s
              · rw [upd_ne e9]; exact hXf c (by omega)) (fun c hc => by
              by_cases e9 : c = i
              · subst e9; exact upd_s
              · rw [upd_ne e9]; exact hYf c (by omega)) _ _ _ hP hD hS (lv_sub hl [1, 2, 3, 4, 5, 6, 7, 8, 9, 0] rfl)
        | succ jw ihinner =>
          intro w F hjw hF hFw H locs ls hP hD hS hl
          have hw : w < 11 := by omega
          refine lv_iload hx hb dL_law_153 (lv_at hl 10 rfl) ?_
          refine lv_bipush (v := 11) hx hb dL_law_155 (by decide) ?_
          refine lv_icmp_ge (tgt := 182) hx hb dL_law_157 (by decide) (fun c_157 => absurd c_157 (nI_ge (b := 11) (by omega) (by decide))) (fun c_157 => ?_)
          refine lv_aload hx hb dL_law_160 (lv_at hl 6 rfl) ?_
          refine lv_iload hx hb dL_law_162 (lv_at hl 9 rfl) ?_
          refine cu_aaldA hx hb hK hP (i := i) (n := N) (r := rr i) (f := fun i => some (rr i)) (cu_sp.mem (e0 := .inl (C 3, N, .inr (.inr (.inr (.inr (fun i => some (rr i))))))) (cu_sp.inR (X := (cu_cw C a (nI N) mn K P)) (cu_sp.inR (X := (cu_sm C o r g N mn K)) (cu_sp.inL (Y := ((cu_rw C rr N F) ++ ([(q1, .inl (C 0, N, .inl Xf))] ++ [(q2, .inl (C 0, N, .inl Yf))]))) (cu_sp.all (W0 := (cu_ro C q rr N)) (W1 := (cu_ro C q rr N)) rfl))))) hi (by omega) rfl dL_law_164 ?_
          refine lv_iload hx hb dL_law_165 (lv_at hl 10 rfl) ?_
          refine lv_aload_n hx hb dL_law_167 rfl (lv_at hl 1 rfl) ?_
          refine lv_iload hx hb dL_law_168 (lv_at hl 9 rfl) ?_
          refine lv_iload hx hb dL_law_170 (lv_at hl 10 rfl) ?_
          have sp := (cu_sp.inL (Y := ((cu_sm C o r g N mn K) ++ ((cu_ro C q rr N) ++ ((cu_rw C rr N F) ++ ([(q1, .inl (C 0, N, .inl Xf))] ++ [(q2, .inl (C 0, N, .inl Yf))]))))) (cu_sp.all (W0 := (cu_cw C a (nI N) mn K P)) (W1 := (cu_cw C a (nI N) mn K P)) rfl))
          refine cu_callXI (vx_runV (As := [.int (nI i), .int (nI w)]) (rest := [.int (nI w), .ref (rr i)]) ⟨hx, hb, hml, hown, hts⟩ ((n_clock l hlf D C a N hN mn K P i hi (nI w) (k_oR_n hw)) H.size) (cwV 2 hts gL_law_X1_clock rfl rfl rfl (by decide +kernel) ⟨Nat.le_of_ble_eq_true rfl, Nat.le_of_ble_eq_true rfl⟩) (cu_preXV (ci := 1) sp hG hP hD hT hS hA rfl rfl) rfl rfl hl.1 rfl (lv_room (Nat.le_of_ble_eq_true rfl)) dL_law_172 ⟨by show ((((cells + 1) + 1 + N + 2) + 24 * i + 0) + 2 * w + 0) + 2 ≤ 600104; omega, by show ((((slots + 6) + N + N * 11 + 0 + N + 0 + N + 0) + 144 * i + 0) + 12 * w + 0) + 12 ≤ 7301314; omega⟩) sp hP hD hS hA (fun E _ _ _ _ hoE _ _ _ _ _ _ => by cases hoE) (fun H locs _ hP hD hS => ?_)
          have hP : va_P D vwCl ((cu_cw C a (nI N) mn K P) ++ ((cu_sm C o r g N mn K) ++ ((cu_ro C q rr N) ++ ((cu_rw C rr N F) ++ ([(q1, .inl (C 0, N, .inl Xf))] ++ [(q2, .inl (C 0, N, .inl Yf))]))))) H := hP
          have hD : va_D A ((cu_cw C a (nI N) mn K P) ++ ((cu_sm C o r g N mn K) ++ ((cu_ro C q rr N) ++ ((cu_rw C rr N F) ++ ([(q1, .inl (C 0, N, .inl Xf))] ++ [(q2, .inl (C 0, N, .inl Yf))]))))) := hD
          refine cu_ast hx hb hK hP hD hS (i := w) (n := 11) (x := (k_read (K i) (nI w))) (f := F i) (cu_sp.inR (X := (cu_cw C a (nI N) mn K P)) (cu_sp.inR (X := (cu_sm C o r g N mn K)) (cu_sp.inR (X := (cu_ro C q rr N)) (cu_sp.inL (Y := ([(q1, .inl (C 0, N, .inl Xf))] ++ [(q2, .inl (C 0, N, .inl Yf))])) (cu_rw_sp (C := C) (rr := rr) (N := N) (i := i) (F := F) (f' := upd (F i) w (k_read (K i) (nI w))) hi))))) (by omega) (by omega) dL_law_175 (fun H locs hP hD hS => ?_)
          have hP : va_P D vwCl ((cu_cw C a (nI N) mn K P) ++ ((cu_sm C o r g N mn K) ++ ((cu_ro C q rr N) ++ ((cu_rw C rr N (va_up F i (upd (F i) w (k_read (K i) (nI w))))) ++ ([(q1, .inl (C 0, N, .inl Xf))] ++ [(q2, .inl (C 0, N, .inl Yf))]))))) H := hP
          have hD : va_D A ((cu_cw C a (nI N) mn K P) ++ ((cu_sm C o r g N mn K) ++ ((cu_ro C q rr N) ++ ((cu_rw C rr N (va_up F i (upd (F i) w (k_read (K i) (nI w))))) ++ ([(q1, .inl (C 0, N, .inl Xf))] ++ [(q2, .inl (C 0, N, .inl Yf))]))))) := hD
          refine lv_iinc (v := (nI (w + 1))) (lv' := [(10, .int (nI (w + 1))), (0, .ref sb), (1, .ref (a 0)), (2, .ref o), (3, .int (nI t)), (4, .int x), (5, .int (nI N)), (6, .ref q), (7, .ref q1), (8, .ref q2), (9, .int (nI i))]) hx hb dL_law_176 hl (k := 10) rfl (nI_1 w) (by decide) rfl (fun ls hl => ?_)
          refine lv_goto (tgt := 153) hx hb dL_law_179 (by decide) ?_
          refine W.widen (k := (((cells + 1) + 1 + N + 2) + 24 * i + 0) + 2 * (w + 1)) (n := (((slots + 6) + N + N * 11 + 0 + N + 0 + N + 0) + 144 * i + 0) + 12 * (w + 1)) (by omega) (by omega) ?_
          exact ihinner (w + 1) _ (by omega) (fun c hc => by
              rw [va_up_ne _ _ (show c ≠ i by omega)]; exact hF c hc) (fun v hv => by
              rw [va_up_self]
              by_cases e9 : v = w
              · subst e9; exact upd_s
              · rw [upd_ne e9]; exact hFw v (by omega)) _ _ _ hP hD hS (lv_sub hl [1, 2, 3, 4, 5, 6, 7, 8, 9, 10, 0] rfl)
      refine W.widen (k := (((cells + 1) + 1 + N + 2) + 24 * i + 0) + 2 * 0) (n := (((slots + 6) + N + N * 11 + 0 + N + 0 + N + 0) + 144 * i + 0) + 12 * 0) (by omega) (by omega) ?_
      exact inner 11 0 F (by omega) hF (fun v hv => absurd hv (Nat.not_lt_zero v)) _ _ _ hP hD hS (lv_sub hl [1, 2, 3, 4, 5, 6, 7, 8, 9, 10, 0] rfl)
  refine W.widen (k := ((cells + 1) + 1 + N + 2) + 24 * 0) (n := ((slots + 6) + N + N * 11 + 0 + N + 0 + N + 0) + 144 * 0) (by omega) (by omega) ?_
  exact outer N 0 _ _ _ _ (by omega) (fun c hc => absurd hc (Nat.not_lt_zero c)) (fun c hc => absurd hc (Nat.not_lt_zero c)) (fun c hc => absurd hc (Nat.not_lt_zero c)) _ _ _ hP hD hS (lv_sub hl [5, 6, 7, 8, 9, 4, 3, 2, 1, 0] rfl)
