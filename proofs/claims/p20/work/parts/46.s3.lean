/-! the law: what is foreseen, and the minute -/
set_option maxHeartbeats 4000000 in
set_option maxRecDepth 100000 in
theorem lw_s3 {p : Program} {l : Launch} {e : Env} {s : State} {m : MethodId} {args : Array Value} {below : List Frame} {meth : Method} {c : Code} {A : Nat → Prop} {Z : State → Prop} {H0 H : Heap} {locs : List Loc} {ls : Array Slot} {D : va_G} {C : Nat → ClassId} {sb L cells slots : Nat} {xs : Nat → Int32} {a : Nat → Nat} {o r : Nat} {g : Nat → Nat} {N t : Nat} {mn : Int32} {K P : Nat → Nat → Int32} (XC : lw_cx p l s m args c A H0 D C sb L xs) {x : Int32} {T : Nat} {F : Nat → Nat → Int32} {Xf Yf : Nat → Int32} {q nx sd : Nat} {rr : Nat → Nat} (I : k_in N mn K T) (hT9 : T ≤ 20000) (hc : cells + 40 ≤ 600104) (hs : slots + 250 ≤ 7301314) (hP : va_P D vwCl ((cu_cw C a (nI N) mn K P) ++ ((cu_sm C o r g N mn K) ++ ((cu_ro C q rr N) ++ ((cu_rw C rr N F) ++ ([(nx, .inl (C 0, N, .inl Xf))] ++ [(sd, .inl (C 0, N, .inl Yf))]))))) H) (hD : va_D A ((cu_cw C a (nI N) mn K P) ++ ((cu_sm C o r g N mn K) ++ ((cu_ro C q rr N) ++ ((cu_rw C rr N F) ++ ([(nx, .inl (C 0, N, .inl Xf))] ++ [(sd, .inl (C 0, N, .inl Yf))])))))) (hS : va_S A H0 H locs) (hl : lv_has ls 26 [(0, .ref sb), (1, .ref (a 0)), (2, .ref o), (3, .int (nI t)), (4, .int x), (5, .int (nI N)), (6, .ref q), (7, .ref nx), (8, .ref sd)])
    (kk : ∀ (P : Nat → Nat → Int32) (H : Heap) (locs : List Loc) (ls : Array Slot), k_in N (mn + 1) (k_nx N mn K) (T + 1) → va_P D vwCl ((cu_cw C a (nI N) (mn + 1) (k_nx N mn K) P) ++ ((cu_sm C o r g N (mn + 1) (k_nx N mn K)) ++ ((cu_ro C q rr N) ++ ((cu_rw C rr N F) ++ ([(nx, .inl (C 0, N, .inl Xf))] ++ [(sd, .inl (C 0, N, .inl Yf))]))))) H → va_D A ((cu_cw C a (nI N) (mn + 1) (k_nx N mn K) P) ++ ((cu_sm C o r g N (mn + 1) (k_nx N mn K)) ++ ((cu_ro C q rr N) ++ ((cu_rw C rr N F) ++ ([(nx, .inl (C 0, N, .inl Xf))] ++ [(sd, .inl (C 0, N, .inl Yf))]))))) → va_S A H0 H locs → lv_has ls 26 [(0, .ref sb), (1, .ref (a 0)), (2, .ref o), (3, .int (nI t)), (4, .int x), (5, .int (nI N)), (6, .ref q), (7, .ref nx), (8, .ref sd), (9, .int mn), (10, .int (k_lat N mn K)), (11, .int (k_all N (k_nx N mn K) 8 - k_all N K 8)), (12, .int (k_goSum N (k_nx N mn K))), (13, .int (k_offs N (k_nx N mn K) (mn + 1))), (14, .int (k_lat N mn K))] → W p l e room_1 s m args below meth c H locs (cells + 40) (slots + 250) Z (F0 m 329 ls [])) : W p l e room_1 s m args below meth c H locs cells slots Z (F0 m 210 ls []) := by
  obtain ⟨hx, hb, hml, hts, hown, hG, hT, hX, hbl, hbA, hA, hlf, hL⟩ := XC
  have hK := hG.1
  have hN := I.1
  have hiX3 := inlX3
  have hiX2 := inlX2
  refine lv_aload_n hx hb dL_law_210 rfl (lv_at hl 1 rfl) ?_
  refine lv_iconst (v := 0) hx hb dL_law_211 (by decide) ?_
  have sp := (cu_sp.inL (Y := ((cu_sm C o r g N mn K) ++ ((cu_ro C q rr N) ++ ((cu_rw C rr N F) ++ ([(nx, .inl (C 0, N, .inl Xf))] ++ [(sd, .inl (C 0, N, .inl Yf))]))))) (cu_sp.all (W0 := (cu_cw C a (nI N) mn K P)) (W1 := (cu_cw C a (nI N) mn K P)) rfl))
  refine cu_callXI (vx_runV (As := [.int 0]) (rest := []) ⟨hx, hb, hml, hown, hts⟩ ((n_count l hlf D C a N hN mn K P 0 (by decide)) H.size) (cwV 1 hts gL_law_X1_count rfl rfl rfl (by decide +kernel) ⟨Nat.le_of_ble_eq_true rfl, Nat.le_of_ble_eq_true rfl⟩) (cu_preXV (ci := 1) sp hG hP hD hT hS hA rfl rfl) rfl rfl hl.1 rfl (lv_room (Nat.le_of_ble_eq_true rfl)) dL_law_212 ⟨by show (cells + 0) + 1 ≤ 600104; omega, by show (slots + 0) + 6 ≤ 7301314; omega⟩) sp hP hD hS hA (fun E _ _ _ _ hoE _ _ _ _ _ _ => by cases hoE) (fun H locs _ hP hD hS => ?_)
  have hP : va_P D vwCl ((cu_cw C a (nI N) mn K P) ++ ((cu_sm C o r g N mn K) ++ ((cu_ro C q rr N) ++ ((cu_rw C rr N F) ++ ([(nx, .inl (C 0, N, .inl Xf))] ++ [(sd, .inl (C 0, N, .inl Yf))]))))) H := hP
  have hD : va_D A ((cu_cw C a (nI N) mn K P) ++ ((cu_sm C o r g N mn K) ++ ((cu_ro C q rr N) ++ ((cu_rw C rr N F) ++ ([(nx, .inl (C 0, N, .inl Xf))] ++ [(sd, .inl (C 0, N, .inl Yf))]))))) := hD
  refine cu_top (x' := mn) (rfl) ?_
  refine lv_istore (lv' := [(9, .int (mn)), (0, .ref sb), (1, .ref (a 0)), (2, .ref o), (3, .int (nI t)), (4, .int x), (5, .int (nI N)), (6, .ref q), (7, .ref nx), (8, .ref sd)]) hx hb dL_law_215 hl (by decide) rfl (fun ls hl => ?_)
  refine lv_aload_n hx hb dL_law_217 rfl (lv_at hl 2 rfl) ?_
  refine lv_iconst (v := 1) hx hb dL_law_218 (by decide) ?_
  refine lv_iconst (v := 0) hx hb dL_law_219 (by decide) ?_
  have sp := (cu_sp.inL (Y := ((cu_sm C o r g N mn K) ++ ((cu_ro C q rr N) ++ ((cu_rw C rr N F) ++ ([(nx, .inl (C 0, N, .inl Xf))] ++ [(sd, .inl (C 0, N, .inl Yf))]))))) (cu_sp.all (W0 := (cu_cw C a (nI N) mn K P)) (W1 := (cu_cw C a (nI N) mn K (k_at N mn (k_cpy K P N) 1))) cu_cw_fst))
  refine cu_callXI (vx_runV (As := [.int 1, .int 0]) (rest := []) ⟨hx, hb, hml, hown, hts⟩ ((n_foresee l hlf D C a N hN mn K P (k_in_5 I) 0 (by decide)) H.size) (cwV 2 hts gL_law_X1_foresee rfl rfl rfl (by decide +kernel) ⟨Nat.le_of_ble_eq_true rfl, Nat.le_of_ble_eq_true rfl⟩) (cu_preXV (ci := 1) sp hG hP hD hT hS hA rfl rfl) rfl rfl hl.1 rfl (lv_room (Nat.le_of_ble_eq_true rfl)) dL_law_220 ⟨by show (cells + 1) + 2 ≤ 600104; omega, by show (slots + 6) + 12 ≤ 7301314; omega⟩) sp hP hD hS hA (fun E _ _ _ _ hoE _ _ _ _ _ _ => by cases hoE) (fun H locs _ hP hD hS => ?_)
  have hP : va_P D vwCl ((cu_cw C a (nI N) mn K (k_at N mn (k_cpy K P N) 1)) ++ ((cu_sm C o r g N mn K) ++ ((cu_ro C q rr N) ++ ((cu_rw C rr N F) ++ ([(nx, .inl (C 0, N, .inl Xf))] ++ [(sd, .inl (C 0, N, .inl Yf))]))))) H := hP
  have hD : va_D A ((cu_cw C a (nI N) mn K (k_at N mn (k_cpy K P N) 1)) ++ ((cu_sm C o r g N mn K) ++ ((cu_ro C q rr N) ++ ((cu_rw C rr N F) ++ ([(nx, .inl (C 0, N, .inl Xf))] ++ [(sd, .inl (C 0, N, .inl Yf))]))))) := hD
  refine cu_top (x' := k_lat N mn K) (k_f0) ?_
  generalize (k_at N mn (k_cpy K P N) 1) = P1 at hP hD
  refine lv_istore (lv' := [(10, .int (k_lat N mn K)), (9, .int (mn)), (0, .ref sb), (1, .ref (a 0)), (2, .ref o), (3, .int (nI t)), (4, .int x), (5, .int (nI N)), (6, .ref q), (7, .ref nx), (8, .ref sd)]) hx hb dL_law_223 hl (by decide) rfl (fun ls hl => ?_)
  refine lv_aload_n hx hb dL_law_225 rfl (lv_at hl 3 rfl) ?_
  refine lv_iconst (v := 1) hx hb dL_law_226 (by decide) ?_
  refine lv_iconst (v := 1) hx hb dL_law_227 (by decide) ?_
  have sp := (cu_sp.inL (Y := ((cu_sm C o r g N mn K) ++ ((cu_ro C q rr N) ++ ((cu_rw C rr N F) ++ ([(nx, .inl (C 0, N, .inl Xf))] ++ [(sd, .inl (C 0, N, .inl Yf))]))))) (cu_sp.all (W0 := (cu_cw C a (nI N) mn K P1)) (W1 := (cu_cw C a (nI N) mn K (k_at N mn (k_cpy K P1 N) 1))) cu_cw_fst))
  refine cu_callXI (vx_runV (As := [.int 1, .int 1]) (rest := []) ⟨hx, hb, hml, hown, hts⟩ ((n_foresee l hlf D C a N hN mn K P1 (k_in_5 I) 1 (by decide)) H.size) (cwV 2 hts gL_law_X1_foresee rfl rfl rfl (by decide +kernel) ⟨Nat.le_of_ble_eq_true rfl, Nat.le_of_ble_eq_true rfl⟩) (cu_preXV (ci := 1) sp hG hP hD hT hS hA rfl rfl) rfl rfl hl.1 rfl (lv_room (Nat.le_of_ble_eq_true rfl)) dL_law_228 ⟨by show (cells + 3) + 2 ≤ 600104; omega, by show (slots + 18) + 12 ≤ 7301314; omega⟩) sp hP hD hS hA (fun E _ _ _ _ hoE _ _ _ _ _ _ => by cases hoE) (fun H locs _ hP hD hS => ?_)
  have hP : va_P D vwCl ((cu_cw C a (nI N) mn K (k_at N mn (k_cpy K P1 N) 1)) ++ ((cu_sm C o r g N mn K) ++ ((cu_ro C q rr N) ++ ((cu_rw C rr N F) ++ ([(nx, .inl (C 0, N, .inl Xf))] ++ [(sd, .inl (C 0, N, .inl Yf))]))))) H := hP
  have hD : va_D A ((cu_cw C a (nI N) mn K (k_at N mn (k_cpy K P1 N) 1)) ++ ((cu_sm C o r g N mn K) ++ ((cu_ro C q rr N) ++ ((cu_rw C rr N F) ++ ([(nx, .inl (C 0, N, .inl Xf))] ++ [(sd, .inl (C 0, N, .inl Yf))]))))) := hD
  refine cu_top (x' := k_all N (k_nx N mn K) 8 - k_all N K 8) (k_f1) ?_
  generalize (k_at N mn (k_cpy K P1 N) 1) = P2 at hP hD
  refine lv_istore (lv' := [(11, .int (k_all N (k_nx N mn K) 8 - k_all N K 8)), (10, .int (k_lat N mn K)), (9, .int (mn)), (0, .ref sb), (1, .ref (a 0)), (2, .ref o), (3, .int (nI t)), (4, .int x), (5, .int (nI N)), (6, .ref q), (7, .ref nx), (8, .ref sd)]) hx hb dL_law_231 hl (by decide) rfl (fun ls hl => ?_)
  refine lv_aload_n hx hb dL_law_233 rfl (lv_at hl 4 rfl) ?_
  refine lv_iconst (v := 1) hx hb dL_law_234 (by decide) ?_
  refine lv_iconst (v := 2) hx hb dL_law_235 (by decide) ?_
  have sp := (cu_sp.inL (Y := ((cu_sm C o r g N mn K) ++ ((cu_ro C q rr N) ++ ((cu_rw C rr N F) ++ ([(nx, .inl (C 0, N, .inl Xf))] ++ [(sd, .inl (C 0, N, .inl Yf))]))))) (cu_sp.all (W0 := (cu_cw C a (nI N) mn K P2)) (W1 := (cu_cw C a (nI N) mn K (k_at N mn (k_cpy K P2 N) 1))) cu_cw_fst))
  refine cu_callXI (vx_runV (As := [.int 1, .int 2]) (rest := []) ⟨hx, hb, hml, hown, hts⟩ ((n_foresee l hlf D C a N hN mn K P2 (k_in_5 I) 2 (by decide)) H.size) (cwV 2 hts gL_law_X1_foresee rfl rfl rfl (by decide +kernel) ⟨Nat.le_of_ble_eq_true rfl, Nat.le_of_ble_eq_true rfl⟩) (cu_preXV (ci := 1) sp hG hP hD hT hS hA rfl rfl) rfl rfl hl.1 rfl (lv_room (Nat.le_of_ble_eq_true rfl)) dL_law_236 ⟨by show (cells + 5) + 2 ≤ 600104; omega, by show (slots + 30) + 12 ≤ 7301314; omega⟩) sp hP hD hS hA (fun E _ _ _ _ hoE _ _ _ _ _ _ => by cases hoE) (fun H locs _ hP hD hS => ?_)
  have hP : va_P D vwCl ((cu_cw C a (nI N) mn K (k_at N mn (k_cpy K P2 N) 1)) ++ ((cu_sm C o r g N mn K) ++ ((cu_ro C q rr N) ++ ((cu_rw C rr N F) ++ ([(nx, .inl (C 0, N, .inl Xf))] ++ [(sd, .inl (C 0, N, .inl Yf))]))))) H := hP
  have hD : va_D A ((cu_cw C a (nI N) mn K (k_at N mn (k_cpy K P2 N) 1)) ++ ((cu_sm C o r g N mn K) ++ ((cu_ro C q rr N) ++ ((cu_rw C rr N F) ++ ([(nx, .inl (C 0, N, .inl Xf))] ++ [(sd, .inl (C 0, N, .inl Yf))]))))) := hD
  refine cu_top (x' := k_goSum N (k_nx N mn K)) (k_f2) ?_
  generalize (k_at N mn (k_cpy K P2 N) 1) = P3 at hP hD
  refine lv_istore (lv' := [(12, .int (k_goSum N (k_nx N mn K))), (11, .int (k_all N (k_nx N mn K) 8 - k_all N K 8)), (10, .int (k_lat N mn K)), (9, .int (mn)), (0, .ref sb), (1, .ref (a 0)), (2, .ref o), (3, .int (nI t)), (4, .int x), (5, .int (nI N)), (6, .ref q), (7, .ref nx), (8, .ref sd)]) hx hb dL_law_239 hl (by decide) rfl (fun ls hl => ?_)
  refine lv_aload_n hx hb dL_law_241 rfl (lv_at hl 5 rfl) ?_
  refine lv_iconst (v := 1) hx hb dL_law_242 (by decide) ?_
  refine lv_iconst (v := 3) hx hb dL_law_243 (by decide) ?_
  have sp := (cu_sp.inL (Y := ((cu_sm C o r g N mn K) ++ ((cu_ro C q rr N) ++ ((cu_rw C rr N F) ++ ([(nx, .inl (C 0, N, .inl Xf))] ++ [(sd, .inl (C 0, N, .inl Yf))]))))) (cu_sp.all (W0 := (cu_cw C a (nI N) mn K P3)) (W1 := (cu_cw C a (nI N) mn K (k_at N mn (k_cpy K P3 N) 1))) cu_cw_fst))
  refine cu_callXI (vx_runV (As := [.int 1, .int 3]) (rest := []) ⟨hx, hb, hml, hown, hts⟩ ((n_foresee l hlf D C a N hN mn K P3 (k_in_5 I) 3 (by decide)) H.size) (cwV 2 hts gL_law_X1_foresee rfl rfl rfl (by decide +kernel) ⟨Nat.le_of_ble_eq_true rfl, Nat.le_of_ble_eq_true rfl⟩) (cu_preXV (ci := 1) sp hG hP hD hT hS hA rfl rfl) rfl rfl hl.1 rfl (lv_room (Nat.le_of_ble_eq_true rfl)) dL_law_244 ⟨by show (cells + 7) + 2 ≤ 600104; omega, by show (slots + 42) + 12 ≤ 7301314; omega⟩) sp hP hD hS hA (fun E _ _ _ _ hoE _ _ _ _ _ _ => by cases hoE) (fun H locs _ hP hD hS => ?_)
  have hP : va_P D vwCl ((cu_cw C a (nI N) mn K (k_at N mn (k_cpy K P3 N) 1)) ++ ((cu_sm C o r g N mn K) ++ ((cu_ro C q rr N) ++ ((cu_rw C rr N F) ++ ([(nx, .inl (C 0, N, .inl Xf))] ++ [(sd, .inl (C 0, N, .inl Yf))]))))) H := hP
  have hD : va_D A ((cu_cw C a (nI N) mn K (k_at N mn (k_cpy K P3 N) 1)) ++ ((cu_sm C o r g N mn K) ++ ((cu_ro C q rr N) ++ ((cu_rw C rr N F) ++ ([(nx, .inl (C 0, N, .inl Xf))] ++ [(sd, .inl (C 0, N, .inl Yf))]))))) := hD
  refine cu_top (x' := k_offs N (k_nx N mn K) (mn + 1)) (k_f3) ?_
  generalize (k_at N mn (k_cpy K P3 N) 1) = P4 at hP hD
  refine lv_istore (lv' := [(13, .int (k_offs N (k_nx N mn K) (mn + 1))), (12, .int (k_goSum N (k_nx N mn K))), (11, .int (k_all N (k_nx N mn K) 8 - k_all N K 8)), (10, .int (k_lat N mn K)), (9, .int (mn)), (0, .ref sb), (1, .ref (a 0)), (2, .ref o), (3, .int (nI t)), (4, .int x), (5, .int (nI N)), (6, .ref q), (7, .ref nx), (8, .ref sd)]) hx hb dL_law_247 hl (by decide) rfl (fun ls hl => ?_)
  refine lv_aload_n hx hb dL_law_249 rfl (lv_at hl 6 rfl) ?_
  refine lv_iconst (v := 1) hx hb dL_law_250 (by decide) ?_
  have sp := (cu_sp.inL (Y := ((cu_sm C o r g N mn K) ++ ((cu_ro C q rr N) ++ ((cu_rw C rr N F) ++ ([(nx, .inl (C 0, N, .inl Xf))] ++ [(sd, .inl (C 0, N, .inl Yf))]))))) (cu_sp.all (W0 := (cu_cw C a (nI N) mn K P4)) (W1 := (cu_cw C a (nI N) (mn + nI 1) (k_at N mn K 1) P4)) cu_cw_fst))
  refine cu_callXI (vx_runV (As := [.int 1]) (rest := []) ⟨hx, hb, hml, hown, hts⟩ ((n_pass l hlf D C a N hN mn K P4 1 (by omega) (by omega)) H.size) (cwV 1 hts gL_law_X1_pass rfl rfl rfl (by decide +kernel) ⟨Nat.le_of_ble_eq_true rfl, Nat.le_of_ble_eq_true rfl⟩) (cu_preXV (ci := 1) sp hG hP hD hT hS hA rfl rfl) rfl rfl hl.1 rfl (lv_room (Nat.le_of_ble_eq_true rfl)) dL_law_251 ⟨by show (cells + 9) + 1 ≤ 600104; omega, by show (slots + 54) + 6 ≤ 7301314; omega⟩) sp hP hD hS hA (fun E _ _ _ _ hoE _ _ _ _ _ _ => by cases hoE) (fun H locs _ hP hD hS => ?_)
  have hP : va_P D vwCl ((cu_cw C a (nI N) (mn + nI 1) (k_at N mn K 1) P4) ++ ((cu_sm C o r g N mn K) ++ ((cu_ro C q rr N) ++ ((cu_rw C rr N F) ++ ([(nx, .inl (C 0, N, .inl Xf))] ++ [(sd, .inl (C 0, N, .inl Yf))]))))) H := hP
  have hD : va_D A ((cu_cw C a (nI N) (mn + nI 1) (k_at N mn K 1) P4) ++ ((cu_sm C o r g N mn K) ++ ((cu_ro C q rr N) ++ ((cu_rw C rr N F) ++ ([(nx, .inl (C 0, N, .inl Xf))] ++ [(sd, .inl (C 0, N, .inl Yf))]))))) := hD
  refine cu_top (x' := k_lat N mn K) (k_calls1 N mn K) ?_
  rw [k_at_1] at hP hD
  have hP : va_P D vwCl ((cu_cw C a (nI N) (mn + 1) (k_nx N mn K) P4) ++ ((cu_sm C o r g N mn K) ++ ((cu_ro C q rr N) ++ ((cu_rw C rr N F) ++ ([(nx, .inl (C 0, N, .inl Xf))] ++ [(sd, .inl (C 0, N, .inl Yf))]))))) H := hP
  have hD : va_D A ((cu_cw C a (nI N) (mn + 1) (k_nx N mn K) P4) ++ ((cu_sm C o r g N mn K) ++ ((cu_ro C q rr N) ++ ((cu_rw C rr N F) ++ ([(nx, .inl (C 0, N, .inl Xf))] ++ [(sd, .inl (C 0, N, .inl Yf))]))))) := hD
  refine lv_istore (lv' := [(14, .int (k_lat N mn K)), (13, .int (k_offs N (k_nx N mn K) (mn + 1))), (12, .int (k_goSum N (k_nx N mn K))), (11, .int (k_all N (k_nx N mn K) 8 - k_all N K 8)), (10, .int (k_lat N mn K)), (9, .int (mn)), (0, .ref sb), (1, .ref (a 0)), (2, .ref o), (3, .int (nI t)), (4, .int x), (5, .int (nI N)), (6, .ref q), (7, .ref nx), (8, .ref sd)]) hx hb dL_law_254 hl (by decide) rfl (fun ls hl => ?_)
  refine lv_aload_n hx hb dL_law_256 rfl (lv_at hl 8 rfl) ?_
  have sp := (cu_sp.inR (X := (cu_cw C a (nI N) (mn + 1) (k_nx N mn K) P4)) (cu_sp.inL (Y := ((cu_ro C q rr N) ++ ((cu_rw C rr N F) ++ ([(nx, .inl (C 0, N, .inl Xf))] ++ [(sd, .inl (C 0, N, .inl Yf))])))) (cu_sp.all (W0 := (cu_sm C o r g N mn K)) (W1 := (cu_sm C o r g N (mn + 1) (k_upto (k_min mn) K N))) cu_sm_fst)))
  refine cu_callI (va_runV (As := []) (rest := []) ⟨hx, hb, hml, hown, hts⟩ ((m_X3_pass l D C o r g N hN mn K (k_in_oks I)) H.size) (cwV 0 hts gL_law_X3_pass rfl rfl rfl (by decide +kernel) ⟨Nat.le_of_ble_eq_true rfl, Nat.le_of_ble_eq_true rfl⟩) (cu_preV (ci := 3) sp hG hP hD rfl rfl) rfl rfl hl.1 rfl (lv_room (Nat.le_of_ble_eq_true rfl)) dL_law_257 ⟨by show (cells + 10) + 0 ≤ 600104; omega, by show (slots + 60) + 0 ≤ 7301314; omega⟩) sp hP hD hS hA (fun H locs hP hD hS => ?_)
  have hP : va_P D vwCl ((cu_cw C a (nI N) (mn + 1) (k_nx N mn K) P4) ++ ((cu_sm C o r g N (mn + 1) (k_upto (k_min mn) K N)) ++ ((cu_ro C q rr N) ++ ((cu_rw C rr N F) ++ ([(nx, .inl (C 0, N, .inl Xf))] ++ [(sd, .inl (C 0, N, .inl Yf))]))))) H := hP
  have hD : va_D A ((cu_cw C a (nI N) (mn + 1) (k_nx N mn K) P4) ++ ((cu_sm C o r g N (mn + 1) (k_upto (k_min mn) K N)) ++ ((cu_ro C q rr N) ++ ((cu_rw C rr N F) ++ ([(nx, .inl (C 0, N, .inl Xf))] ++ [(sd, .inl (C 0, N, .inl Yf))]))))) := hD
  have hP : va_P D vwCl ((cu_cw C a (nI N) (mn + 1) (k_nx N mn K) P4) ++ ((cu_sm C o r g N (mn + 1) (k_nx N mn K)) ++ ((cu_ro C q rr N) ++ ((cu_rw C rr N F) ++ ([(nx, .inl (C 0, N, .inl Xf))] ++ [(sd, .inl (C 0, N, .inl Yf))]))))) H := hP
  have hD : va_D A ((cu_cw C a (nI N) (mn + 1) (k_nx N mn K) P4) ++ ((cu_sm C o r g N (mn + 1) (k_nx N mn K)) ++ ((cu_ro C q rr N) ++ ((cu_rw C rr N F) ++ ([(nx, .inl (C 0, N, .inl Xf))] ++ [(sd, .inl (C 0, N, .inl Yf))]))))) := hD
  have I9 := k_in_nx I hT9
  refine lv_pop hx hb dL_law_260 rfl ?_
  refine lv_iload hx hb dL_law_261 (lv_at hl 0 rfl) ?_
  refine lv_iload hx hb dL_law_263 (lv_at hl 4 rfl) ?_
  refine lv_icmp_ne (tgt := 327) hx hb dL_law_265 (by decide) (fun c_265 => absurd rfl c_265) (fun c_265 => ?_)
  refine lv_aload_n hx hb dL_law_268 rfl (lv_at hl 7 rfl) ?_
  refine lv_iconst (v := 3) hx hb dL_law_269 (by decide) ?_
  have sp := (cu_sp.inL (Y := ((cu_sm C o r g N (mn + 1) (k_nx N mn K)) ++ ((cu_ro C q rr N) ++ ((cu_rw C rr N F) ++ ([(nx, .inl (C 0, N, .inl Xf))] ++ [(sd, .inl (C 0, N, .inl Yf))]))))) (cu_sp.all (W0 := (cu_cw C a (nI N) (mn + 1) (k_nx N mn K) P4)) (W1 := (cu_cw C a (nI N) (mn + 1) (k_nx N mn K) P4)) rfl))
  refine cu_callXI (vx_runV (As := [.int 3]) (rest := []) ⟨hx, hb, hml, hown, hts⟩ ((n_count l hlf D C a N hN (mn + 1) (k_nx N mn K) P4 3 (by decide)) H.size) (cwV 1 hts gL_law_X1_count rfl rfl rfl (by decide +kernel) ⟨Nat.le_of_ble_eq_true rfl, Nat.le_of_ble_eq_true rfl⟩) (cu_preXV (ci := 1) sp hG hP hD hT hS hA rfl rfl) rfl rfl hl.1 rfl (lv_room (Nat.le_of_ble_eq_true rfl)) dL_law_270 ⟨by show (cells + 10) + 1 ≤ 600104; omega, by show (slots + 60) + 6 ≤ 7301314; omega⟩) sp hP hD hS hA (fun E _ _ _ _ hoE _ _ _ _ _ _ => by cases hoE) (fun H locs _ hP hD hS => ?_)
  have hP : va_P D vwCl ((cu_cw C a (nI N) (mn + 1) (k_nx N mn K) P4) ++ ((cu_sm C o r g N (mn + 1) (k_nx N mn K)) ++ ((cu_ro C q rr N) ++ ((cu_rw C rr N F) ++ ([(nx, .inl (C 0, N, .inl Xf))] ++ [(sd, .inl (C 0, N, .inl Yf))]))))) H := hP
  have hD : va_D A ((cu_cw C a (nI N) (mn + 1) (k_nx N mn K) P4) ++ ((cu_sm C o r g N (mn + 1) (k_nx N mn K)) ++ ((cu_ro C q rr N) ++ ((cu_rw C rr N F) ++ ([(nx, .inl (C 0, N, .inl Xf))] ++ [(sd, .inl (C 0, N, .inl Yf))]))))) := hD
  refine lv_iload hx hb dL_law_273 (lv_at hl 2 rfl) ?_
  refine lv_icmp_ne (tgt := 327) hx hb dL_law_275 (by decide) (fun c_275 => absurd rfl c_275) (fun c_275 => ?_)
  refine lv_aload_n hx hb dL_law_278 rfl (lv_at hl 7 rfl) ?_
  refine lv_bipush (v := 7) hx hb dL_law_279 (by decide) ?_
  have sp := (cu_sp.inL (Y := ((cu_sm C o r g N (mn + 1) (k_nx N mn K)) ++ ((cu_ro C q rr N) ++ ((cu_rw C rr N F) ++ ([(nx, .inl (C 0, N, .inl Xf))] ++ [(sd, .inl (C 0, N, .inl Yf))]))))) (cu_sp.all (W0 := (cu_cw C a (nI N) (mn + 1) (k_nx N mn K) P4)) (W1 := (cu_cw C a (nI N) (mn + 1) (k_nx N mn K) P4)) rfl))
  refine cu_callXI (vx_runV (As := [.int 7]) (rest := []) ⟨hx, hb, hml, hown, hts⟩ ((n_count l hlf D C a N hN (mn + 1) (k_nx N mn K) P4 7 (by decide)) H.size) (cwV 1 hts gL_law_X1_count rfl rfl rfl (by decide +kernel) ⟨Nat.le_of_ble_eq_true rfl, Nat.le_of_ble_eq_true rfl⟩) (cu_preXV (ci := 1) sp hG hP hD hT hS hA rfl rfl) rfl rfl hl.1 rfl (lv_room (Nat.le_of_ble_eq_true rfl)) dL_law_281 ⟨by show (cells + 11) + 1 ≤ 600104; omega, by show (slots + 66) + 6 ≤ 7301314; omega⟩) sp hP hD hS hA (fun E _ _ _ _ hoE _ _ _ _ _ _ => by cases hoE) (fun H locs _ hP hD hS => ?_)
  have hP : va_P D vwCl ((cu_cw C a (nI N) (mn + 1) (k_nx N mn K) P4) ++ ((cu_sm C o r g N (mn + 1) (k_nx N mn K)) ++ ((cu_ro C q rr N) ++ ((cu_rw C rr N F) ++ ([(nx, .inl (C 0, N, .inl Xf))] ++ [(sd, .inl (C 0, N, .inl Yf))]))))) H := hP
  have hD : va_D A ((cu_cw C a (nI N) (mn + 1) (k_nx N mn K) P4) ++ ((cu_sm C o r g N (mn + 1) (k_nx N mn K)) ++ ((cu_ro C q rr N) ++ ((cu_rw C rr N F) ++ ([(nx, .inl (C 0, N, .inl Xf))] ++ [(sd, .inl (C 0, N, .inl Yf))]))))) := hD
  refine lv_iload hx hb dL_law_284 (lv_at hl 1 rfl) ?_
  refine lv_icmp_ne (tgt := 327) hx hb dL_law_286 (by decide) (fun c_286 => absurd rfl c_286) (fun c_286 => ?_)
  refine lv_aload_n hx hb dL_law_289 rfl (lv_at hl 7 rfl) ?_
  refine lv_iconst (v := 5) hx hb dL_law_290 (by decide) ?_
  have sp := (cu_sp.inL (Y := ((cu_sm C o r g N (mn + 1) (k_nx N mn K)) ++ ((cu_ro C q rr N) ++ ((cu_rw C rr N F) ++ ([(nx, .inl (C 0, N, .inl Xf))] ++ [(sd, .inl (C 0, N, .inl Yf))]))))) (cu_sp.all (W0 := (cu_cw C a (nI N) (mn + 1) (k_nx N mn K) P4)) (W1 := (cu_cw C a (nI N) (mn + 1) (k_nx N mn K) P4)) rfl))
  refine cu_callXI (vx_runV (As := [.int 5]) (rest := []) ⟨hx, hb, hml, hown, hts⟩ ((n_count l hlf D C a N hN (mn + 1) (k_nx N mn K) P4 5 (by decide)) H.size) (cwV 1 hts gL_law_X1_count rfl rfl rfl (by decide +kernel) ⟨Nat.le_of_ble_eq_true rfl, Nat.le_of_ble_eq_true rfl⟩) (cu_preXV (ci := 1) sp hG hP hD hT hS hA rfl rfl) rfl rfl hl.1 rfl (lv_room (Nat.le_of_ble_eq_true rfl)) dL_law_291 ⟨by show (cells + 12) + 1 ≤ 600104; omega, by show (slots + 72) + 6 ≤ 7301314; omega⟩) sp hP hD hS hA (fun E _ _ _ _ hoE _ _ _ _ _ _ => by cases hoE) (fun H locs _ hP hD hS => ?_)
  have hP : va_P D vwCl ((cu_cw C a (nI N) (mn + 1) (k_nx N mn K) P4) ++ ((cu_sm C o r g N (mn + 1) (k_nx N mn K)) ++ ((cu_ro C q rr N) ++ ((cu_rw C rr N F) ++ ([(nx, .inl (C 0, N, .inl Xf))] ++ [(sd, .inl (C 0, N, .inl Yf))]))))) H := hP
  have hD : va_D A ((cu_cw C a (nI N) (mn + 1) (k_nx N mn K) P4) ++ ((cu_sm C o r g N (mn + 1) (k_nx N mn K)) ++ ((cu_ro C q rr N) ++ ((cu_rw C rr N F) ++ ([(nx, .inl (C 0, N, .inl Xf))] ++ [(sd, .inl (C 0, N, .inl Yf))]))))) := hD
  refine lv_iload hx hb dL_law_294 (lv_at hl 4 rfl) ?_
  refine lv_icmp_ne (tgt := 327) hx hb dL_law_296 (by decide) (fun c_296 => absurd k_t5 c_296) (fun c_296 => ?_)
  refine lv_aload_n hx hb dL_law_299 rfl (lv_at hl 7 rfl) ?_
  refine lv_iconst (v := 0) hx hb dL_law_300 (by decide) ?_
  have sp := (cu_sp.inL (Y := ((cu_sm C o r g N (mn + 1) (k_nx N mn K)) ++ ((cu_ro C q rr N) ++ ((cu_rw C rr N F) ++ ([(nx, .inl (C 0, N, .inl Xf))] ++ [(sd, .inl (C 0, N, .inl Yf))]))))) (cu_sp.all (W0 := (cu_cw C a (nI N) (mn + 1) (k_nx N mn K) P4)) (W1 := (cu_cw C a (nI N) (mn + 1) (k_nx N mn K) P4)) rfl))
  refine cu_callXI (vx_runV (As := [.int 0]) (rest := []) ⟨hx, hb, hml, hown, hts⟩ ((n_count l hlf D C a N hN (mn + 1) (k_nx N mn K) P4 0 (by decide)) H.size) (cwV 1 hts gL_law_X1_count rfl rfl rfl (by decide +kernel) ⟨Nat.le_of_ble_eq_true rfl, Nat.le_of_ble_eq_true rfl⟩) (cu_preXV (ci := 1) sp hG hP hD hT hS hA rfl rfl) rfl rfl hl.1 rfl (lv_room (Nat.le_of_ble_eq_true rfl)) dL_law_301 ⟨by show (cells + 13) + 1 ≤ 600104; omega, by show (slots + 78) + 6 ≤ 7301314; omega⟩) sp hP hD hS hA (fun E _ _ _ _ hoE _ _ _ _ _ _ => by cases hoE) (fun H locs _ hP hD hS => ?_)
  have hP : va_P D vwCl ((cu_cw C a (nI N) (mn + 1) (k_nx N mn K) P4) ++ ((cu_sm C o r g N (mn + 1) (k_nx N mn K)) ++ ((cu_ro C q rr N) ++ ((cu_rw C rr N F) ++ ([(nx, .inl (C 0, N, .inl Xf))] ++ [(sd, .inl (C 0, N, .inl Yf))]))))) H := hP
  have hD : va_D A ((cu_cw C a (nI N) (mn + 1) (k_nx N mn K) P4) ++ ((cu_sm C o r g N (mn + 1) (k_nx N mn K)) ++ ((cu_ro C q rr N) ++ ((cu_rw C rr N F) ++ ([(nx, .inl (C 0, N, .inl Xf))] ++ [(sd, .inl (C 0, N, .inl Yf))]))))) := hD
  refine lv_iload hx hb dL_law_304 (lv_at hl 5 rfl) ?_
  refine lv_iconst (v := 1) hx hb dL_law_306 (by decide) ?_
  refine lv_iadd hx hb dL_law_307 ?_
  refine lv_icmp_ne (tgt := 327) hx hb dL_law_308 (by decide) (fun c_308 => absurd rfl c_308) (fun c_308 => ?_)
  refine lv_aload_n hx hb dL_law_311 rfl (lv_at hl 7 rfl) ?_
  refine lv_iconst (v := 1) hx hb dL_law_312 (by decide) ?_
  have sp := (cu_sp.inL (Y := ((cu_sm C o r g N (mn + 1) (k_nx N mn K)) ++ ((cu_ro C q rr N) ++ ((cu_rw C rr N F) ++ ([(nx, .inl (C 0, N, .inl Xf))] ++ [(sd, .inl (C 0, N, .inl Yf))]))))) (cu_sp.all (W0 := (cu_cw C a (nI N) (mn + 1) (k_nx N mn K) P4)) (W1 := (cu_cw C a (nI N) (mn + 1) (k_nx N mn K) P4)) rfl))
  refine cu_callXI (vx_runV (As := [.int 1]) (rest := []) ⟨hx, hb, hml, hown, hts⟩ ((n_count l hlf D C a N hN (mn + 1) (k_nx N mn K) P4 1 (by decide)) H.size) (cwV 1 hts gL_law_X1_count rfl rfl rfl (by decide +kernel) ⟨Nat.le_of_ble_eq_true rfl, Nat.le_of_ble_eq_true rfl⟩) (cu_preXV (ci := 1) sp hG hP hD hT hS hA rfl rfl) rfl rfl hl.1 rfl (lv_room (Nat.le_of_ble_eq_true rfl)) dL_law_313 ⟨by show (cells + 14) + 1 ≤ 600104; omega, by show (slots + 84) + 6 ≤ 7301314; omega⟩) sp hP hD hS hA (fun E _ _ _ _ hoE _ _ _ _ _ _ => by cases hoE) (fun H locs _ hP hD hS => ?_)
  have hP : va_P D vwCl ((cu_cw C a (nI N) (mn + 1) (k_nx N mn K) P4) ++ ((cu_sm C o r g N (mn + 1) (k_nx N mn K)) ++ ((cu_ro C q rr N) ++ ((cu_rw C rr N F) ++ ([(nx, .inl (C 0, N, .inl Xf))] ++ [(sd, .inl (C 0, N, .inl Yf))]))))) H := hP
  have hD : va_D A ((cu_cw C a (nI N) (mn + 1) (k_nx N mn K) P4) ++ ((cu_sm C o r g N (mn + 1) (k_nx N mn K)) ++ ((cu_ro C q rr N) ++ ((cu_rw C rr N F) ++ ([(nx, .inl (C 0, N, .inl Xf))] ++ [(sd, .inl (C 0, N, .inl Yf))]))))) := hD
  refine lv_iload hx hb dL_law_316 (lv_at hl 5 rfl) ?_
  refine lv_iconst (v := 1) hx hb dL_law_318 (by decide) ?_
  refine lv_iadd hx hb dL_law_319 ?_
  refine lv_sipush (v := 720) hx hb dL_law_320 (by decide) ?_
  refine lv_irem hx hb dL_law_323 (by decide) ?_
  refine lv_icmp_eq (tgt := 329) hx hb dL_law_324 (by decide) (fun c_324 => ?_) (fun c_324 => absurd (k_t1 I9.2.2.2.1) c_324)
  refine W.widen (k := cells + 40) (n := slots + 250) (by omega) (by omega) ?_
  exact kk P4 _ _ _ I9 hP hD hS (lv_sub hl [6, 7, 8, 9, 10, 11, 12, 13, 14, 5, 4, 3, 2, 1, 0] rfl)
