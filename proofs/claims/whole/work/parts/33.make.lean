/-! what is made: new rows, a new clock of the model, the model itself -/
section CUN
variable {p : Program} {l : Launch} {e : Env} {R : Room} {s : State} {m : MethodId} {args : Array Value} {below : List Frame} {meth : Method} {c : Code} {H : Heap} {locs : List Loc} {cells slots : Nat} {Q : State → Prop}
variable {cc : ByteArray} {pc : Nat} {ls : Array Slot} {rest : List Value} {D : va_G} {C : Nat → ClassId} {A : Nat → Prop} {a : Nat} {ws : va_W} {H0 : Heap}
theorem cu_newI (hexec : p.tables.exec = Jvm.exec) (hb : c.code = cc) (harr : (Cond.arrayClass .int).before args s = true) (hK : va_K D vwCl (cu_tys C) s) (hP : va_P D vwCl ws H) (hD : va_D A ws) (hS : va_S A H0 H locs) (hA : ∀ q : Nat, H0.size ≤ q → A q)
    {n : Int32} {N' : Nat} (hn : ¬ n < 0) (hN : n.toNatClampNeg = N') (hbytes : N' * componentBytes .int ≤ 536870912) (hcells : cells + 1 ≤ R.cells) (hslots : slots + N' ≤ R.slots) (hdg : decode cc pc = .ok (.newarray .int, 2))
    (kk : ∀ (q : Nat) (H1 : Heap), va_P D vwCl (ws ++ [(q, .inl (C 0, N', .inl (fun _ => 0)))]) H1 → va_D A (ws ++ [(q, .inl (C 0, N', .inl (fun _ => 0)))]) → va_S A H0 H1 locs →
      W p l e R s m args below meth c H1 locs (cells + 1) (slots + N') Q (F0 m (pc + 2) ls (.ref q :: rest))) : W p l e R s m args below meth c H locs cells slots Q (F0 m pc ls (.int n :: rest)) := by
  refine va_newa (atype := .int) (ty := .int) (a0 := (N', .inl (fun _ => 0))) hexec hb harr rfl hK hP hD hS hA (fun _ => rfl) hn hN hbytes hcells hslots hdg (fun q cA H1 hK1 hP1 hD1 hS1 => ?_)
  have h1 : s.vm.findClass "[I" = some cA := (hK1.2 4 (cA, .int) rfl).2
  have h2 : s.vm.findClass "[I" = some (C 0) := (hK.2 0 (C 0, .int) rfl).2
  cases Option.some.inj (h1.symm.trans h2)
  exact kk q H1 hP1 hD1 hS1
end CUN
theorem cu_come {K : Nat → Nat → Int32} {N : Nat} {F Y : Nat → Int32} (hF : ∀ w, w < 14 → F w = Y w) : va_cpy F (cu_sg K) 0 (14 * N) 14 = cu_sg (va_up K N Y) := by
  funext j
  unfold va_cpy cu_sg
  by_cases h : 14 * N ≤ j ∧ j < 14 * N + 14
  · rw [if_pos h, show j / 14 = N by omega, va_up_self, hF _ (by omega)]
    congr 1
    omega
  · rw [if_neg h, va_up_ne _ _ (show j / 14 ≠ N by omega)]
def k_cA (N : Nat) (v : Int32) : Int32 := if k_isW v 0 719 = 0 then 1 else if nI N = 10 then 2 else 0
/-- a new clock -/
def k_fresh (v : Int32) : Nat → Int32 := upd (upd (k_new (fun _ => 0)) 0 v) 1 0
theorem nI_nneg {n : Nat} (h : n < 2147483648) : ¬ nI n < 0 := by
  rw [i_lt, nI_toInt h]
  have e0 : (0 : Int32).toInt = 0 := by decide
  omega

set_option maxHeartbeats 4000000 in
set_option maxRecDepth 100000 in
theorem m_X2_come (l : Launch) (D : va_G) (C : Nat → ClassId) (o r q : Nat) (th : Int32) (N : Nat) (hN : N ≤ 10) (mn : Int32) (K : Nat → Nat → Int32) (v1 : Int32) : cu_I l D C yX2_come wsX2_come { frames := 1, cells := 1, slots := 14, locals := 40 } [.ref o, .int v1] (cu_mw C o r q th (nI N) mn K) (cu_mw C o r q (k_cA N v1) (if k_cA N v1 = 0 then nI (N + 1) else nI N) mn (if k_cA N v1 = 0 then va_up K N (k_fresh v1) else K)) (if k_cA N v1 = 0 then nI N else 0) 1 14 := by
  refine cu_openI (cc := cX2_come) (maxL := 3) (ty := .int) (own := RX2) (by decide) rfl rfl (Nat.le_of_ble_eq_true rfl) ?_
  intro p e s m args below meth c A Z H0 ls e0 hx hb hml hts hown hnm hG hP hD hS hA hl fin
  have hK := hG.1
  have hl : lv_has ls 3 [(0, .ref o), (1, .int v1)] := hl
  have hiX2 : ∀ w ∈ wsX20, w ∈ wsX2_come := by decide +kernel
  refine lv_aload_n hx hb dX2_come_0 rfl (lv_at hl 0 rfl) ?_
  refine lv_iconst (v := 0) hx hb dX2_come_1 (by decide) ?_
  refine va_put (D := D) (ci := 2) (v := .int 0) (ty := .int) (C := RX2) (T := TX2) (N := 4) hx hb hts hiX2 tyX2 tyX2_ok nmX2 hown hK hP hD hS 0 rfl rfl 0 (by decide) (hts (.fieldLink RX2 16 "CuckooShopModel" "thrown" "I") (by decide +kernel)) (fun _ h9 => h9) rfl (by decide +kernel) rfl rfl (Nat.le_of_ble_eq_true rfl) dX2_come_2 (fun H locs hP hD hS => ?_)
  have hP : va_P D vwCl (cu_mw C o r q 0 (nI N) mn K) H := hP
  have hD : va_D A (cu_mw C o r q 0 (nI N) mn K) := hD
  refine lv_iload_n hx hb dX2_come_5 rfl (lv_at hl 1 rfl) ?_
  refine lv_iconst (v := 0) hx hb dX2_come_6 (by decide) ?_
  refine lv_sipush (v := 719) hx hb dX2_come_7 (by decide) ?_
  have sp := cu_sp.nil (W0 := (cu_mw C o r q 0 (nI N) mn K))
  refine cu_callI (va_runS (As := [.int v1, .int 0, .int 719]) (rest := []) ⟨hx, hb, hml, hown, hts⟩ ((m_X2_isIn l D C v1 0 719) H.size) (va_cwS 3 hts gX2_come_X2_isIn rfl rfl rfl (by decide +kernel) ⟨Nat.le_of_ble_eq_true rfl, Nat.le_of_ble_eq_true rfl⟩) (cu_preS sp hG hP hD) rfl rfl hl.1 rfl (lv_room (Nat.le_of_ble_eq_true rfl)) dX2_come_10 ⟨Nat.le_of_ble_eq_true rfl, Nat.le_of_ble_eq_true rfl⟩) sp hP hD hS hA (fun H locs hP hD hS => ?_)
  refine lv_if_ne (tgt := 22) hx hb dX2_come_13 (by decide) (fun c_13 => ?_) (fun c_13 => ?_)
  · refine lv_aload_n hx hb dX2_come_22 rfl (lv_at hl 0 rfl) ?_
    refine va_get (D := D) (ci := 2) (v := .int (nI N)) (C := RX2) (T := TX2) (N := 4) hx hb hts hiX2 hown hK hP 0 rfl rfl 1 (by decide) (hts (.fieldLink RX2 20 "CuckooShopModel" "clocks" "I") (by decide +kernel)) (fun _ h9 => h9) rfl dX2_come_23 ?_
    refine lv_bipush (v := 10) hx hb dX2_come_26 (by decide) ?_
    refine lv_icmp_ne (tgt := 37) hx hb dX2_come_28 (by decide) (fun c_28 => ?_) (fun c_28 => ?_)
    · have hN9 : N < 10 := by
        rcases Nat.lt_or_ge N 10 with h | h
        · exact h
        · exact absurd (by rw [show N = 10 by omega]; rfl) c_28
      refine lv_bipush (v := 14) hx hb dX2_come_37 (by decide) ?_
      refine cu_newI hx hb (hts (.arrayClass .int) (by decide +kernel)) hK hP hD hS hA (N' := 14) (by decide) rfl (Nat.le_of_ble_eq_true rfl) (Nat.le_of_ble_eq_true rfl) (Nat.le_of_ble_eq_true rfl) dX2_come_39 (fun sa H hP hD hS => ?_)
      have hP : va_P D vwCl ((cu_mw C o r q 0 (nI N) mn K) ++ [(sa, .inl (C 0, 14, .inl (fun _ => 0)))]) H := hP
      have hD : va_D A ((cu_mw C o r q 0 (nI N) mn K) ++ [(sa, .inl (C 0, 14, .inl (fun _ => 0)))]) := hD
      refine lv_dup hx hb dX2_come_41 rfl ?_
      refine lv_iconst (v := 0) hx hb dX2_come_42 (by decide) ?_
      refine lv_iload_n hx hb dX2_come_43 rfl (lv_at hl 1 rfl) ?_
      refine va_iast (n := 14) (f := (fun _ => 0)) hx hb hK hP hD hS 3 0 rfl rfl (vp_in_nI (n := 0) (by decide) (by decide)) dX2_come_44 (fun H locs hP hD hS => ?_)
      have hP : va_P D vwCl ((cu_mw C o r q 0 (nI N) mn K) ++ [(sa, .inl (C 0, 14, .inl (upd (fun _ => 0) 0 v1)))]) H := hP
      have hD : va_D A ((cu_mw C o r q 0 (nI N) mn K) ++ [(sa, .inl (C 0, 14, .inl (upd (fun _ => 0) 0 v1)))]) := hD
      refine lv_dup hx hb dX2_come_45 rfl ?_
      refine lv_iconst (v := 1) hx hb dX2_come_46 (by decide) ?_
      refine lv_iconst (v := 0) hx hb dX2_come_47 (by decide) ?_
      refine va_iast (n := 14) (f := (upd (fun _ => 0) 0 v1)) hx hb hK hP hD hS 3 0 rfl rfl (vp_in_nI (n := 1) (by decide) (by decide)) dX2_come_48 (fun H locs hP hD hS => ?_)
      have hP : va_P D vwCl ((cu_mw C o r q 0 (nI N) mn K) ++ [(sa, .inl (C 0, 14, .inl (upd (upd (fun _ => 0) 0 v1) 1 0)))]) H := hP
      have hD : va_D A ((cu_mw C o r q 0 (nI N) mn K) ++ [(sa, .inl (C 0, 14, .inl (upd (upd (fun _ => 0) 0 v1) 1 0)))]) := hD
      refine lv_dup hx hb dX2_come_49 rfl ?_
      refine lv_iconst (v := 2) hx hb dX2_come_50 (by decide) ?_
      refine lv_sipush (v := 600) hx hb dX2_come_51 (by decide) ?_
      refine va_iast (n := 14) (f := (upd (upd (fun _ => 0) 0 v1) 1 0)) hx hb hK hP hD hS 3 0 rfl rfl (vp_in_nI (n := 2) (by decide) (by decide)) dX2_come_54 (fun H locs hP hD hS => ?_)
      have hP : va_P D vwCl ((cu_mw C o r q 0 (nI N) mn K) ++ [(sa, .inl (C 0, 14, .inl (upd (upd (upd (fun _ => 0) 0 v1) 1 0) 2 600)))]) H := hP
      have hD : va_D A ((cu_mw C o r q 0 (nI N) mn K) ++ [(sa, .inl (C 0, 14, .inl (upd (upd (upd (fun _ => 0) 0 v1) 1 0) 2 600)))]) := hD
      refine lv_dup hx hb dX2_come_55 rfl ?_
      refine lv_iconst (v := 3) hx hb dX2_come_56 (by decide) ?_
      refine lv_bipush (v := 100) hx hb dX2_come_57 (by decide) ?_
      refine va_iast (n := 14) (f := (upd (upd (upd (fun _ => 0) 0 v1) 1 0) 2 600)) hx hb hK hP hD hS 3 0 rfl rfl (vp_in_nI (n := 3) (by decide) (by decide)) dX2_come_59 (fun H locs hP hD hS => ?_)
      have hP : va_P D vwCl ((cu_mw C o r q 0 (nI N) mn K) ++ [(sa, .inl (C 0, 14, .inl (upd (upd (upd (upd (fun _ => 0) 0 v1) 1 0) 2 600) 3 100)))]) H := hP
      have hD : va_D A ((cu_mw C o r q 0 (nI N) mn K) ++ [(sa, .inl (C 0, 14, .inl (upd (upd (upd (upd (fun _ => 0) 0 v1) 1 0) 2 600) 3 100)))]) := hD
      refine lv_dup hx hb dX2_come_60 rfl ?_
      refine lv_iconst (v := 4) hx hb dX2_come_61 (by decide) ?_
      refine lv_bipush (v := 60) hx hb dX2_come_62 (by decide) ?_
      refine va_iast (n := 14) (f := (upd (upd (upd (upd (fun _ => 0) 0 v1) 1 0) 2 600) 3 100)) hx hb hK hP hD hS 3 0 rfl rfl (vp_in_nI (n := 4) (by decide) (by decide)) dX2_come_64 (fun H locs hP hD hS => ?_)
      have hP : va_P D vwCl ((cu_mw C o r q 0 (nI N) mn K) ++ [(sa, .inl (C 0, 14, .inl (upd (upd (upd (upd (upd (fun _ => 0) 0 v1) 1 0) 2 600) 3 100) 4 60)))]) H := hP
      have hD : va_D A ((cu_mw C o r q 0 (nI N) mn K) ++ [(sa, .inl (C 0, 14, .inl (upd (upd (upd (upd (upd (fun _ => 0) 0 v1) 1 0) 2 600) 3 100) 4 60)))]) := hD
      refine lv_dup hx hb dX2_come_65 rfl ?_
      refine lv_iconst (v := 5) hx hb dX2_come_66 (by decide) ?_
      refine lv_iconst (v := 1) hx hb dX2_come_67 (by decide) ?_
      refine va_iast (n := 14) (f := (upd (upd (upd (upd (upd (fun _ => 0) 0 v1) 1 0) 2 600) 3 100) 4 60)) hx hb hK hP hD hS 3 0 rfl rfl (vp_in_nI (n := 5) (by decide) (by decide)) dX2_come_68 (fun H locs hP hD hS => ?_)
      have hP : va_P D vwCl ((cu_mw C o r q 0 (nI N) mn K) ++ [(sa, .inl (C 0, 14, .inl (upd (upd (upd (upd (upd (upd (fun _ => 0) 0 v1) 1 0) 2 600) 3 100) 4 60) 5 1)))]) H := hP
      have hD : va_D A ((cu_mw C o r q 0 (nI N) mn K) ++ [(sa, .inl (C 0, 14, .inl (upd (upd (upd (upd (upd (upd (fun _ => 0) 0 v1) 1 0) 2 600) 3 100) 4 60) 5 1)))]) := hD
      refine lv_dup hx hb dX2_come_69 rfl ?_
      refine lv_bipush (v := 6) hx hb dX2_come_70 (by decide) ?_
      refine lv_iconst (v := 0) hx hb dX2_come_72 (by decide) ?_
      refine va_iast (n := 14) (f := (upd (upd (upd (upd (upd (upd (fun _ => 0) 0 v1) 1 0) 2 600) 3 100) 4 60) 5 1)) hx hb hK hP hD hS 3 0 rfl rfl (vp_in_nI (n := 6) (by decide) (by decide)) dX2_come_73 (fun H locs hP hD hS => ?_)
      have hP : va_P D vwCl ((cu_mw C o r q 0 (nI N) mn K) ++ [(sa, .inl (C 0, 14, .inl (upd (upd (upd (upd (upd (upd (upd (fun _ => 0) 0 v1) 1 0) 2 600) 3 100) 4 60) 5 1) 6 0)))]) H := hP
      have hD : va_D A ((cu_mw C o r q 0 (nI N) mn K) ++ [(sa, .inl (C 0, 14, .inl (upd (upd (upd (upd (upd (upd (upd (fun _ => 0) 0 v1) 1 0) 2 600) 3 100) 4 60) 5 1) 6 0)))]) := hD
      refine lv_dup hx hb dX2_come_74 rfl ?_
      refine lv_bipush (v := 7) hx hb dX2_come_75 (by decide) ?_
      refine lv_iconst (v := 0) hx hb dX2_come_77 (by decide) ?_
      refine va_iast (n := 14) (f := (upd (upd (upd (upd (upd (upd (upd (fun _ => 0) 0 v1) 1 0) 2 600) 3 100) 4 60) 5 1) 6 0)) hx hb hK hP hD hS 3 0 rfl rfl (vp_in_nI (n := 7) (by decide) (by decide)) dX2_come_78 (fun H locs hP hD hS => ?_)
      have hP : va_P D vwCl ((cu_mw C o r q 0 (nI N) mn K) ++ [(sa, .inl (C 0, 14, .inl (upd (upd (upd (upd (upd (upd (upd (upd (fun _ => 0) 0 v1) 1 0) 2 600) 3 100) 4 60) 5 1) 6 0) 7 0)))]) H := hP
      have hD : va_D A ((cu_mw C o r q 0 (nI N) mn K) ++ [(sa, .inl (C 0, 14, .inl (upd (upd (upd (upd (upd (upd (upd (upd (fun _ => 0) 0 v1) 1 0) 2 600) 3 100) 4 60) 5 1) 6 0) 7 0)))]) := hD
      refine lv_dup hx hb dX2_come_79 rfl ?_
      refine lv_bipush (v := 8) hx hb dX2_come_80 (by decide) ?_
      refine lv_iconst (v := 0) hx hb dX2_come_82 (by decide) ?_
      refine va_iast (n := 14) (f := (upd (upd (upd (upd (upd (upd (upd (upd (fun _ => 0) 0 v1) 1 0) 2 600) 3 100) 4 60) 5 1) 6 0) 7 0)) hx hb hK hP hD hS 3 0 rfl rfl (vp_in_nI (n := 8) (by decide) (by decide)) dX2_come_83 (fun H locs hP hD hS => ?_)
      have hP : va_P D vwCl ((cu_mw C o r q 0 (nI N) mn K) ++ [(sa, .inl (C 0, 14, .inl (upd (upd (upd (upd (upd (upd (upd (upd (upd (fun _ => 0) 0 v1) 1 0) 2 600) 3 100) 4 60) 5 1) 6 0) 7 0) 8 0)))]) H := hP
      have hD : va_D A ((cu_mw C o r q 0 (nI N) mn K) ++ [(sa, .inl (C 0, 14, .inl (upd (upd (upd (upd (upd (upd (upd (upd (upd (fun _ => 0) 0 v1) 1 0) 2 600) 3 100) 4 60) 5 1) 6 0) 7 0) 8 0)))]) := hD
      refine lv_dup hx hb dX2_come_84 rfl ?_
      refine lv_bipush (v := 9) hx hb dX2_come_85 (by decide) ?_
      refine lv_bipush (v := 30) hx hb dX2_come_87 (by decide) ?_
      refine va_iast (n := 14) (f := (upd (upd (upd (upd (upd (upd (upd (upd (upd (fun _ => 0) 0 v1) 1 0) 2 600) 3 100) 4 60) 5 1) 6 0) 7 0) 8 0)) hx hb hK hP hD hS 3 0 rfl rfl (vp_in_nI (n := 9) (by decide) (by decide)) dX2_come_89 (fun H locs hP hD hS => ?_)
      have hP : va_P D vwCl ((cu_mw C o r q 0 (nI N) mn K) ++ [(sa, .inl (C 0, 14, .inl (upd (upd (upd (upd (upd (upd (upd (upd (upd (upd (fun _ => 0) 0 v1) 1 0) 2 600) 3 100) 4 60) 5 1) 6 0) 7 0) 8 0) 9 30)))]) H := hP
      have hD : va_D A ((cu_mw C o r q 0 (nI N) mn K) ++ [(sa, .inl (C 0, 14, .inl (upd (upd (upd (upd (upd (upd (upd (upd (upd (upd (fun _ => 0) 0 v1) 1 0) 2 600) 3 100) 4 60) 5 1) 6 0) 7 0) 8 0) 9 30)))]) := hD
      refine lv_dup hx hb dX2_come_90 rfl ?_
      refine lv_bipush (v := 10) hx hb dX2_come_91 (by decide) ?_
      refine lv_bipush (v := 30) hx hb dX2_come_93 (by decide) ?_
      refine va_iast (n := 14) (f := (upd (upd (upd (upd (upd (upd (upd (upd (upd (upd (fun _ => 0) 0 v1) 1 0) 2 600) 3 100) 4 60) 5 1) 6 0) 7 0) 8 0) 9 30)) hx hb hK hP hD hS 3 0 rfl rfl (vp_in_nI (n := 10) (by decide) (by decide)) dX2_come_95 (fun H locs hP hD hS => ?_)
      have hP : va_P D vwCl ((cu_mw C o r q 0 (nI N) mn K) ++ [(sa, .inl (C 0, 14, .inl (upd (upd (upd (upd (upd (upd (upd (upd (upd (upd (upd (fun _ => 0) 0 v1) 1 0) 2 600) 3 100) 4 60) 5 1) 6 0) 7 0) 8 0) 9 30) 10 30)))]) H := hP
      have hD : va_D A ((cu_mw C o r q 0 (nI N) mn K) ++ [(sa, .inl (C 0, 14, .inl (upd (upd (upd (upd (upd (upd (upd (upd (upd (upd (upd (fun _ => 0) 0 v1) 1 0) 2 600) 3 100) 4 60) 5 1) 6 0) 7 0) 8 0) 9 30) 10 30)))]) := hD
      refine lv_dup hx hb dX2_come_96 rfl ?_
      refine lv_bipush (v := 11) hx hb dX2_come_97 (by decide) ?_
      refine lv_iconst (v := 0) hx hb dX2_come_99 (by decide) ?_
      refine va_iast (n := 14) (f := (upd (upd (upd (upd (upd (upd (upd (upd (upd (upd (upd (fun _ => 0) 0 v1) 1 0) 2 600) 3 100) 4 60) 5 1) 6 0) 7 0) 8 0) 9 30) 10 30)) hx hb hK hP hD hS 3 0 rfl rfl (vp_in_nI (n := 11) (by decide) (by decide)) dX2_come_100 (fun H locs hP hD hS => ?_)
      have hP : va_P D vwCl ((cu_mw C o r q 0 (nI N) mn K) ++ [(sa, .inl (C 0, 14, .inl (upd (upd (upd (upd (upd (upd (upd (upd (upd (upd (upd (upd (fun _ => 0) 0 v1) 1 0) 2 600) 3 100) 4 60) 5 1) 6 0) 7 0) 8 0) 9 30) 10 30) 11 0)))]) H := hP
      have hD : va_D A ((cu_mw C o r q 0 (nI N) mn K) ++ [(sa, .inl (C 0, 14, .inl (upd (upd (upd (upd (upd (upd (upd (upd (upd (upd (upd (upd (fun _ => 0) 0 v1) 1 0) 2 600) 3 100) 4 60) 5 1) 6 0) 7 0) 8 0) 9 30) 10 30) 11 0)))]) := hD
      refine lv_dup hx hb dX2_come_101 rfl ?_
      refine lv_bipush (v := 12) hx hb dX2_come_102 (by decide) ?_
      refine lv_iconst (v := -1) hx hb dX2_come_104 (by decide) ?_
      refine va_iast (n := 14) (f := (upd (upd (upd (upd (upd (upd (upd (upd (upd (upd (upd (upd (fun _ => 0) 0 v1) 1 0) 2 600) 3 100) 4 60) 5 1) 6 0) 7 0) 8 0) 9 30) 10 30) 11 0)) hx hb hK hP hD hS 3 0 rfl rfl (vp_in_nI (n := 12) (by decide) (by decide)) dX2_come_105 (fun H locs hP hD hS => ?_)
      have hP : va_P D vwCl ((cu_mw C o r q 0 (nI N) mn K) ++ [(sa, .inl (C 0, 14, .inl (upd (upd (upd (upd (upd (upd (upd (upd (upd (upd (upd (upd (upd (fun _ => 0) 0 v1) 1 0) 2 600) 3 100) 4 60) 5 1) 6 0) 7 0) 8 0) 9 30) 10 30) 11 0) 12 (-1))))]) H := hP
      have hD : va_D A ((cu_mw C o r q 0 (nI N) mn K) ++ [(sa, .inl (C 0, 14, .inl (upd (upd (upd (upd (upd (upd (upd (upd (upd (upd (upd (upd (upd (fun _ => 0) 0 v1) 1 0) 2 600) 3 100) 4 60) 5 1) 6 0) 7 0) 8 0) 9 30) 10 30) 11 0) 12 (-1))))]) := hD
      refine lv_dup hx hb dX2_come_106 rfl ?_
      refine lv_bipush (v := 13) hx hb dX2_come_107 (by decide) ?_
      refine lv_iconst (v := 0) hx hb dX2_come_109 (by decide) ?_
      refine va_iast (n := 14) (f := (upd (upd (upd (upd (upd (upd (upd (upd (upd (upd (upd (upd (upd (fun _ => 0) 0 v1) 1 0) 2 600) 3 100) 4 60) 5 1) 6 0) 7 0) 8 0) 9 30) 10 30) 11 0) 12 (-1))) hx hb hK hP hD hS 3 0 rfl rfl (vp_in_nI (n := 13) (by decide) (by decide)) dX2_come_110 (fun H locs hP hD hS => ?_)
      have hP : va_P D vwCl ((cu_mw C o r q 0 (nI N) mn K) ++ [(sa, .inl (C 0, 14, .inl (upd (upd (upd (upd (upd (upd (upd (upd (upd (upd (upd (upd (upd (upd (fun _ => 0) 0 v1) 1 0) 2 600) 3 100) 4 60) 5 1) 6 0) 7 0) 8 0) 9 30) 10 30) 11 0) 12 (-1)) 13 0)))]) H := hP
      have hD : va_D A ((cu_mw C o r q 0 (nI N) mn K) ++ [(sa, .inl (C 0, 14, .inl (upd (upd (upd (upd (upd (upd (upd (upd (upd (upd (upd (upd (upd (upd (fun _ => 0) 0 v1) 1 0) 2 600) 3 100) 4 60) 5 1) 6 0) 7 0) 8 0) 9 30) 10 30) 11 0) 12 (-1)) 13 0)))]) := hD
      refine lv_astore_n (lv' := [(2, .ref sa), (0, .ref o), (1, .int v1)]) hx hb dX2_come_111 rfl hl (by decide) rfl (fun ls hl => ?_)
      refine lv_aload_n hx hb dX2_come_112 rfl (lv_at hl 0 rfl) ?_
      refine lv_iconst (v := 0) hx hb dX2_come_113 (by decide) ?_
      refine lv_aload_n hx hb dX2_come_114 rfl (lv_at hl 1 rfl) ?_
      refine va_get (D := D) (ci := 2) (v := .ref r) (C := RX2) (T := TX2) (N := 4) hx hb hts hiX2 hown hK hP 0 rfl rfl 2 (by decide) (hts (.fieldLink RX2 9 "CuckooShopModel" "shop" "[I") (by decide +kernel)) (fun _ h9 => h9) rfl dX2_come_115 ?_
      refine lv_bipush (v := 14) hx hb dX2_come_118 (by decide) ?_
      refine lv_aload_n hx hb dX2_come_120 rfl (lv_at hl 1 rfl) ?_
      refine va_get (D := D) (ci := 2) (v := .int (nI N)) (C := RX2) (T := TX2) (N := 4) hx hb hts hiX2 hown hK hP 0 rfl rfl 1 (by decide) (hts (.fieldLink RX2 20 "CuckooShopModel" "clocks" "I") (by decide +kernel)) (fun _ h9 => h9) rfl dX2_come_121 ?_
      refine lv_imul hx hb dX2_come_124 ?_
      refine cu_top (x' := nI (14 * N)) (by rw [show (14 : Int32) = nI 14 from rfl, pk_mul]) ?_
      refine lv_bipush (v := 14) hx hb dX2_come_125 (by decide) ?_
      refine va_copyi (ty := .int) hx hb (hml.trans hl.1.symm) hown (hts (.methodLink RX2 31 arraycopyName) (by decide +kernel)) (hts (.native arraycopyName) (by decide +kernel)) (hts (.static arraycopyName) (by decide +kernel)) (hts (.initialized "java/lang/System") (by decide +kernel)) hK hP hD hS 3 1 0 0 (n0 := 14) (n1 := 140) (f := (upd (upd (upd (upd (upd (upd (upd (upd (upd (upd (upd (upd (upd (upd (fun _ => 0) 0 v1) 1 0) 2 600) 3 100) 4 60) 5 1) 6 0) 7 0) 8 0) 9 30) 10 30) 11 0) 12 (-1)) 13 0)) (g := cu_sg K) rfl rfl rfl rfl rfl (by decide) (nI_nneg (by omega)) (by decide) (Nat.le_of_ble_eq_true rfl) (by rw [nI_clamp (by omega)]; show 14 * N + 14 ≤ 140; omega) (fun _ _ => rfl) (Nat.le_of_ble_eq_true rfl) (Nat.le_of_ble_eq_true rfl) dX2_come_127 (fun H locs hP hD hS => ?_)
      rw [nI_clamp (by omega)] at hP hD
      have hq : va_cpy (upd (upd (upd (upd (upd (upd (upd (upd (upd (upd (upd (upd (upd (upd (fun _ => 0) 0 v1) 1 0) 2 600) 3 100) 4 60) 5 1) 6 0) 7 0) 8 0) 9 30) 10 30) 11 0) 12 (-1)) 13 0) (cu_sg K) (0 : Int32).toNatClampNeg (14 * N) (14 : Int32).toNatClampNeg = cu_sg (va_up K N (k_fresh v1)) := by
        refine cu_come (fun w hw => ?_)
        have h9 : w = 0 ∨ w = 1 ∨ w = 2 ∨ w = 3 ∨ w = 4 ∨ w = 5 ∨ w = 6 ∨ w = 7 ∨ w = 8 ∨ w = 9 ∨ w = 10 ∨ w = 11 ∨ w = 12 ∨ w = 13 := by omega
        rcases h9 with rfl | rfl | rfl | rfl | rfl | rfl | rfl | rfl | rfl | rfl | rfl | rfl | rfl | rfl <;> rfl
      rw [hq] at hP hD
      have hP : va_P D vwCl ((cu_mw C o r q 0 (nI N) mn (va_up K N (k_fresh v1))) ++ [(sa, .inl (C 0, 14, .inl (upd (upd (upd (upd (upd (upd (upd (upd (upd (upd (upd (upd (upd (upd (fun _ => 0) 0 v1) 1 0) 2 600) 3 100) 4 60) 5 1) 6 0) 7 0) 8 0) 9 30) 10 30) 11 0) 12 (-1)) 13 0)))]) H := hP
      have hD : va_D A ((cu_mw C o r q 0 (nI N) mn (va_up K N (k_fresh v1))) ++ [(sa, .inl (C 0, 14, .inl (upd (upd (upd (upd (upd (upd (upd (upd (upd (upd (upd (upd (upd (upd (fun _ => 0) 0 v1) 1 0) 2 600) 3 100) 4 60) 5 1) 6 0) 7 0) 8 0) 9 30) 10 30) 11 0) 12 (-1)) 13 0)))]) := hD
      refine lv_aload_n hx hb dX2_come_130 rfl (lv_at hl 1 rfl) ?_
      refine lv_dup hx hb dX2_come_131 rfl ?_
      refine va_get (D := D) (ci := 2) (v := .int (nI N)) (C := RX2) (T := TX2) (N := 4) hx hb hts hiX2 hown hK hP 0 rfl rfl 1 (by decide) (hts (.fieldLink RX2 20 "CuckooShopModel" "clocks" "I") (by decide +kernel)) (fun _ h9 => h9) rfl dX2_come_132 ?_
      refine lv_iconst (v := 1) hx hb dX2_come_135 (by decide) ?_
      refine lv_iadd hx hb dX2_come_136 ?_
      refine cu_top (x' := nI (N + 1)) (nI_1 N) ?_
      refine va_put (D := D) (ci := 2) (v := .int (nI (N + 1))) (ty := .int) (C := RX2) (T := TX2) (N := 4) hx hb hts hiX2 tyX2 tyX2_ok nmX2 hown hK hP hD hS 0 rfl rfl 1 (by decide) (hts (.fieldLink RX2 20 "CuckooShopModel" "clocks" "I") (by decide +kernel)) (fun _ h9 => h9) rfl (by decide +kernel) rfl rfl (Nat.le_of_ble_eq_true rfl) dX2_come_137 (fun H locs hP hD hS => ?_)
      have hP : va_P D vwCl ((cu_mw C o r q 0 (nI (N + 1)) mn (va_up K N (k_fresh v1))) ++ [(sa, .inl (C 0, 14, .inl (upd (upd (upd (upd (upd (upd (upd (upd (upd (upd (upd (upd (upd (upd (fun _ => 0) 0 v1) 1 0) 2 600) 3 100) 4 60) 5 1) 6 0) 7 0) 8 0) 9 30) 10 30) 11 0) 12 (-1)) 13 0)))]) H := hP
      have hD : va_D A ((cu_mw C o r q 0 (nI (N + 1)) mn (va_up K N (k_fresh v1))) ++ [(sa, .inl (C 0, 14, .inl (upd (upd (upd (upd (upd (upd (upd (upd (upd (upd (upd (upd (upd (upd (fun _ => 0) 0 v1) 1 0) 2 600) 3 100) 4 60) 5 1) 6 0) 7 0) 8 0) 9 30) 10 30) 11 0) 12 (-1)) 13 0)))]) := hD
      refine lv_aload_n hx hb dX2_come_140 rfl (lv_at hl 1 rfl) ?_
      refine va_get (D := D) (ci := 2) (v := .int (nI (N + 1))) (C := RX2) (T := TX2) (N := 4) hx hb hts hiX2 hown hK hP 0 rfl rfl 1 (by decide) (hts (.fieldLink RX2 20 "CuckooShopModel" "clocks" "I") (by decide +kernel)) (fun _ h9 => h9) rfl dX2_come_141 ?_
      refine lv_iconst (v := 1) hx hb dX2_come_144 (by decide) ?_
      refine lv_isub hx hb dX2_come_145 ?_
      exact fin _ _ _ _ _ rfl (by have e : k_cA N v1 = 0 := (by simp (decide := true) only [k_cA, if_neg c_13, if_neg c_28]); rw [e, if_pos rfl]; exact nI_pred N) (by have e : k_cA N v1 = 0 := (by simp (decide := true) only [k_cA, if_neg c_13, if_neg c_28]); rw [e, if_pos rfl, if_pos rfl]; exact cu_P_pre hP) hS dX2_come_146
    · refine lv_aload_n hx hb dX2_come_31 rfl (lv_at hl 0 rfl) ?_
      refine lv_iconst (v := 2) hx hb dX2_come_32 (by decide) ?_
      have sp := cu_sp.all (W0 := (cu_mw C o r q 0 (nI N) mn K)) (W1 := (cu_mw C o r q 2 (nI N) mn K)) cu_mw_fst
      refine cu_callI (va_runV (As := [.int 2]) (rest := []) ⟨hx, hb, hml, hown, hts⟩ ((m_X2_fail l D C o r q 0 N hN mn K 2) H.size) (cwV 1 hts gX2_come_X2_fail rfl rfl rfl (by decide +kernel) ⟨Nat.le_of_ble_eq_true rfl, Nat.le_of_ble_eq_true rfl⟩) (cu_preV (ci := 2) sp hG hP hD rfl rfl) rfl rfl hl.1 rfl (lv_room (Nat.le_of_ble_eq_true rfl)) dX2_come_33 ⟨Nat.le_of_ble_eq_true rfl, Nat.le_of_ble_eq_true rfl⟩) sp hP hD hS hA (fun H locs hP hD hS => ?_)
      have hP : va_P D vwCl (cu_mw C o r q 2 (nI N) mn K) H := hP
      have hD : va_D A (cu_mw C o r q 2 (nI N) mn K) := hD
      refine W.widen (k := 1) (n := 14) (Nat.le_of_ble_eq_true rfl) (Nat.le_of_ble_eq_true rfl) ?_
      exact fin _ _ _ _ _ rfl (by have e : k_cA N v1 = 2 := (by simp (decide := true) only [k_cA, if_neg c_13, if_pos c_28]); rw [e, if_neg (by decide)]) (by have e : k_cA N v1 = 2 := (by simp (decide := true) only [k_cA, if_neg c_13, if_pos c_28]); rw [e, if_neg (by decide), if_neg (by decide)]; exact hP) hS dX2_come_36
  · refine lv_aload_n hx hb dX2_come_16 rfl (lv_at hl 0 rfl) ?_
    refine lv_iconst (v := 1) hx hb dX2_come_17 (by decide) ?_
    have sp := cu_sp.all (W0 := (cu_mw C o r q 0 (nI N) mn K)) (W1 := (cu_mw C o r q 1 (nI N) mn K)) cu_mw_fst
    refine cu_callI (va_runV (As := [.int 1]) (rest := []) ⟨hx, hb, hml, hown, hts⟩ ((m_X2_fail l D C o r q 0 N hN mn K 1) H.size) (cwV 1 hts gX2_come_X2_fail rfl rfl rfl (by decide +kernel) ⟨Nat.le_of_ble_eq_true rfl, Nat.le_of_ble_eq_true rfl⟩) (cu_preV (ci := 2) sp hG hP hD rfl rfl) rfl rfl hl.1 rfl (lv_room (Nat.le_of_ble_eq_true rfl)) dX2_come_18 ⟨Nat.le_of_ble_eq_true rfl, Nat.le_of_ble_eq_true rfl⟩) sp hP hD hS hA (fun H locs hP hD hS => ?_)
    have hP : va_P D vwCl (cu_mw C o r q 1 (nI N) mn K) H := hP
    have hD : va_D A (cu_mw C o r q 1 (nI N) mn K) := hD
    refine W.widen (k := 1) (n := 14) (Nat.le_of_ble_eq_true rfl) (Nat.le_of_ble_eq_true rfl) ?_
    exact fin _ _ _ _ _ rfl (by have e : k_cA N v1 = 1 := (by simp (decide := true) only [k_cA, if_pos c_13]); rw [e, if_neg (by decide)]) (by have e : k_cA N v1 = 1 := (by simp (decide := true) only [k_cA, if_pos c_13]); rw [e, if_neg (by decide), if_neg (by decide)]; exact hP) hS dX2_come_21

/-! a constructor: a world out of one object -/
def cu_N (l : Launch) (D : va_G) (C : Nat → ClassId) (y : MethodName) (ws : List Cond) (rm : Room) (av : List Value) (w : va_W) {S : Type} (post : S → Prop) (Wf : S → va_W) (mc ms : Nat) : Prop :=
  ∀ sz : Nat, Met l y ws rm (va_Pc av (cu_B D C w sz)) (va_Qv post (fun u t => va_P D vwCl (Wf u) t.heap ∧ va_D (va_A w sz) (Wf u)) (va_A w sz)) mc ms (va_A w sz)
set_option maxHeartbeats 1000000 in
theorem cu_openN {l : Launch} {D : va_G} {C : Nat → ClassId} {y : MethodName} {ws ws' : List Cond} {rm : Room} {av : List Value} {w : va_W} {S : Type} {post : S → Prop} {Wf : S → va_W} {mc ms maxL : Nat} {cc : ByteArray} {own : String} (hy : plainName y.cls = true) (ho : y.cls = own) (hw : ws = Cond.code y cc maxL none :: ws') (hz : (lg_sl av).length ≤ maxL)
    (body : ∀ (p : Program) (e : Env) (s : State) (m : MethodId) (args : Array Value) (below : List Frame) (meth : Method) (c : Code) (A : Nat → Prop) (Z : State → Prop) (H0 : Heap) (ls : Array Slot), s.heap = H0 → p.tables.exec = Jvm.exec → c.code = cc → c.maxLocals = maxL → (∀ w ∈ ws, w.before args s = true) → s.vm.findClass own = some m.cls → meth.name = y.name → cu_G D C s → va_P D vwCl w H0 → va_D A w → va_S A H0 H0 [] → (∀ q : Nat, H0.size ≤ q → A q) → lv_has ls maxL (lv_args 0 av) →
      (∀ (u : S) (H : Heap) (locs : List Loc) (pc : Nat) (ls : Array Slot), post u → va_P D vwCl (Wf u) H → va_D A (Wf u) → va_S A H0 H locs → decode cc pc = .ok (.return_, 1) → W p l e rm s m args below meth c H locs mc ms Z (F0 m pc ls [])) →
      W p l e rm s m args below meth c H0 [] 0 0 Z (F0 m 0 ls [])) : cu_N l D C y ws rm av w post Wf mc ms := by
  intro sz
  refine Met.ofW (cc := cc) (maxL := maxL) (ret := none) hy hw ?_
  intro p e s m args below meth c s₁ B hml hv
  obtain ⟨rfl, hsz, hP, hD0, hG⟩ := hv
  subst hsz
  have hl := lv_entry av (n := maxL) hz
  rw [lg_entry_eq]
  refine body p e s m _ below meth c (va_A w s.heap.size) _ _ _ rfl B.exec B.bytes hml (atoms_spec (ws := ws) B.pre) (by rw [← ho]; exact findClass_of_methodNamed B.named) (name_of_methodNamed B.named B.method).1 hG hP hD0.self va_S.rf (fun q h => Or.inr h) hl ?_
  intro u H locs pc ls hu hP hD hS hd
  exact W.vret B.exec B.bytes B.returns (fun t ht hW => ⟨⟨u, rfl, hu, by show va_P D vwCl (Wf u) t.heap; rw [ht]; exact hP, hD⟩, hS.F ht⟩) hS.2.2 hd
theorem cu_callN {p : Program} {l : Launch} {e : Env} {R : Room} {s : State} {m : MethodId} {args : Array Value} {below : List Frame} {meth : Method} {c : Code} {H : Heap} {locs : List Loc} {cells slots : Nat} {Q : State → Prop} {pc : Nat} {ls : Array Slot} {rest st0 : List Value} {a : Array Value} {A : Nat → Prop} {H0 : Heap} {mc ms : Nat} {D : va_G} {w : va_W} {S : Type} {post : S → Prop} {Wf : S → va_W}
    (hr : va_Run p l e R s m args below meth c H locs cells slots mc ms (F0 m pc ls st0) rest (va_Qv post (fun u t => va_P D vwCl (Wf u) t.heap ∧ va_D (va_A w H.size) (Wf u)) (va_A w H.size) a) (va_A w H.size)) (hF : ∀ q, va_A w H.size q → A q) (hS : va_S A H0 H locs)
    (kk : ∀ (u : S) (H1 : Heap) (locs1 : List Loc), post u → va_P D vwCl (Wf u) H1 → va_D (va_A w H.size) (Wf u) → H.size ≤ H1.size → (∀ q : Nat, q < H.size → ¬ va_A w H.size q → H1[q]? = H[q]?) → va_S A H0 H1 locs1 → W p l e R s m args below meth c H1 locs1 (cells + mc) (slots + ms) Q (F0 m (pc + 3) ls rest)) : W p l e R s m args below meth c H locs cells slots Q (F0 m pc ls st0) := by
  refine va_callv hr hS (fun q _ h => hF q h) hF (fun u t H1 locs1 ht _ hu hB hz hk hS1 => ?_)
  rw [ht] at hB
  exact kk u H1 locs1 hu hB.1 hB.2 hz hk hS1
set_option maxHeartbeats 4000000 in
set_option maxRecDepth 100000 in
theorem m_X2_minit (l : Launch) (D : va_G) (C : Nat → ClassId) (o : Nat) : cu_N l D C yX2_init wsX2_init { frames := 1, cells := 2, slots := 141, locals := 20 } [.ref o] [(o, .inr (2, [.int 0, .int 0, .null, .null]))] (fun _ : Nat × Nat => True) (fun u => cu_mw C o u.1 u.2 0 0 0 (fun _ _ => 0)) 2 141 := by
  refine cu_openN (cc := cX2_init) (maxL := 1) (own := RX2) (by decide) rfl rfl (Nat.le_of_ble_eq_true rfl) ?_
  intro p e s m args below meth c A Z H0 ls e0 hx hb hml hts hown hnm hG hP hD hS hA hl fin
  have hK := hG.1
  have hl : lv_has ls 1 [(0, .ref o)] := hl
  have hiX2 : ∀ w ∈ wsX20, w ∈ wsX2_init := by decide +kernel
  refine lv_aload_n hx hb dX2_init_0 rfl (lv_at hl 0 rfl) ?_
  refine W.objInit hx hb hown (hts (.methodLink RX2 1 objectInit) (by decide +kernel)) (hts (.instanceMethod objectInit) (by decide +kernel)) (hts (.code objectInit ⟨#[0xb1]⟩ 1 none) (by decide +kernel)) rfl (by rw [hml]; exact hl.1) rfl dX2_init_1 (Nat.le_of_ble_eq_true rfl) (Nat.le_of_ble_eq_true rfl) ?_
  refine W.eq (g2 := F0 m 4 ls []) rfl ?_
  refine lv_aload_n hx hb dX2_init_4 rfl (lv_at hl 0 rfl) ?_
  refine lv_sipush (v := 140) hx hb dX2_init_5 (by decide) ?_
  refine cu_newI hx hb (hts (.arrayClass .int) (by decide +kernel)) hK hP hD hS hA (N' := 140) (by decide) rfl (Nat.le_of_ble_eq_true rfl) (Nat.le_of_ble_eq_true rfl) (Nat.le_of_ble_eq_true rfl) dX2_init_8 (fun r H hP hD hS => ?_)
  refine va_putF (D := D) (ci := 2) (v := .ref r) (ty := .array .int) (C := RX2) (T := TX2) (N := 4) hx hb hts hiX2 tyX2 tyX2_ok nmX2 hown hK hP hD hS 0 rfl rfl 2 (by decide) (hts (.fieldLink RX2 9 "CuckooShopModel" "shop" "[I") (by decide +kernel)) (fun _ h9 => h9) rfl hnm rfl (by decide +kernel) rfl rfl (Nat.le_of_ble_eq_true rfl) dX2_init_10 (fun H locs hP hD hS => ?_)
  refine lv_aload_n hx hb dX2_init_13 rfl (lv_at hl 0 rfl) ?_
  refine lv_iconst (v := 1) hx hb dX2_init_14 (by decide) ?_
  refine cu_newI hx hb (hts (.arrayClass .int) (by decide +kernel)) hK hP hD hS hA (N' := 1) (by decide) rfl (Nat.le_of_ble_eq_true rfl) (Nat.le_of_ble_eq_true rfl) (Nat.le_of_ble_eq_true rfl) dX2_init_15 (fun q H hP hD hS => ?_)
  refine lv_dup hx hb dX2_init_17 rfl ?_
  refine lv_iconst (v := 0) hx hb dX2_init_18 (by decide) ?_
  refine lv_iconst (v := 0) hx hb dX2_init_19 (by decide) ?_
  refine va_iast (n := 1) (f := fun _ => 0) hx hb hK hP hD hS 2 0 rfl rfl (vp_in_nI (n := 0) (by decide) (by decide)) dX2_init_20 (fun H locs hP hD hS => ?_)
  refine va_putF (D := D) (ci := 2) (v := .ref q) (ty := .array .int) (C := RX2) (T := TX2) (N := 4) hx hb hts hiX2 tyX2 tyX2_ok nmX2 hown hK hP hD hS 0 rfl rfl 3 (by decide) (hts (.fieldLink RX2 13 "CuckooShopModel" "minute" "[I") (by decide +kernel)) (fun _ h9 => h9) rfl hnm rfl (by decide +kernel) rfl rfl (Nat.le_of_ble_eq_true rfl) dX2_init_21 (fun H locs hP hD hS => ?_)
  have hz : cu_sg (fun _ _ => 0) = fun _ => 0 := rfl
  have hP : va_P D vwCl (cu_mw C o r q 0 0 0 (fun _ _ => 0)) H := cu_mw_m (m := 0) hP
  have hD : va_D A (cu_mw C o r q 0 0 0 (fun _ _ => 0)) := by refine cu_D_fst ?_ hD; rfl
  exact fin (r, q) _ _ _ _ trivial hP hD hS dX2_init_24
