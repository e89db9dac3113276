/-! arrays of the law's -/
section CUAR
variable {p : Program} {l : Launch} {e : Env} {R : Room} {s : State} {m : MethodId} {args : Array Value} {below : List Frame} {meth : Method} {c : Code} {H : Heap} {locs : List Loc} {cells slots : Nat} {Q : State → Prop}
variable {cc : ByteArray} {pc : Nat} {ls : Array Slot} {rest : List Value} {D : va_G} {C : Nat → ClassId} {A : Nat → Prop} {a : Nat} {ws W1 : va_W} {H0 : Heap}
theorem cu_newI (hexec : p.tables.exec = Jvm.exec) (hb : c.code = cc) (harr : (Cond.arrayClass .int).before args s = true) (hK : va_K D vwCl (cu_tys C) s) (hP : va_P D vwCl ws H) (hD : va_D A ws) (hS : va_S A H0 H locs) (hA : ∀ q : Nat, H0.size ≤ q → A q)
    {n : Int32} {N' : Nat} (hn : ¬ n < 0) (hN : n.toNatClampNeg = N') (hbytes : N' * componentBytes .int ≤ 536870912) (hcells : cells + 1 ≤ R.cells) (hslots : slots + N' ≤ R.slots) (hdg : decode cc pc = .ok (.newarray .int, 2))
    (kk : ∀ (q : Nat) (H1 : Heap), va_P D vwCl (ws ++ [(q, .inl (C 0, N', .inl (fun _ => 0)))]) H1 → va_D A (ws ++ [(q, .inl (C 0, N', .inl (fun _ => 0)))]) → va_S A H0 H1 locs →
      W p l e R s m args below meth c H1 locs (cells + 1) (slots + N') Q (F0 m (pc + 2) ls (.ref q :: rest))) : W p l e R s m args below meth c H locs cells slots Q (F0 m pc ls (.int n :: rest)) := by
  refine va_newa (atype := .int) (ty := .int) (a0 := (N', .inl (fun _ => 0))) hexec hb harr rfl hK hP hD hS hA (fun _ => rfl) hn hN hbytes hcells hslots hdg (fun q cA H1 hK1 hP1 hD1 hS1 => ?_)
  have h1 : s.vm.findClass "[I" = some cA := (hK1.2 4 (cA, .int) rfl).2
  have h2 : s.vm.findClass "[I" = some (C 0) := (hK.2 0 (C 0, .int) rfl).2
  cases Option.some.inj (h1.symm.trans h2)
  exact kk q H1 hP1 hD1 hS1
theorem cu_ald (hexec : p.tables.exec = Jvm.exec) (hb : c.code = cc) (hK : va_K D vwCl (cu_tys C) s) (hP : va_P D vwCl ws H) {n i : Nat} {f : Nat → Int32} (hm : (a, .inl (C 0, n, .inl f)) ∈ ws) (hi : i < n) (hn : n < 2147483648) (hdg : decode cc pc = .ok (.iaload, 1))
    (kk : W p l e R s m args below meth c H locs cells slots Q (F0 m (pc + 1) ls (.int (f i) :: rest))) : W p l e R s m args below meth c H locs cells slots Q (F0 m pc ls (.int (nI i) :: .ref a :: rest)) := by
  obtain ⟨q0, h0⟩ := List.getElem?_of_mem hm
  refine va_iald hexec hb hK hP q0 0 h0 rfl (vp_in_nI hi hn) hdg ?_
  rw [nI_clamp (show i < 2 ^ 31 by omega)]
  exact kk
theorem cu_ast (hexec : p.tables.exec = Jvm.exec) (hb : c.code = cc) (hK : va_K D vwCl (cu_tys C) s) (hP : va_P D vwCl ws H) (hD : va_D A ws) (hS : va_S A H0 H locs) {n i : Nat} {f : Nat → Int32} {x : Int32} (sp : cu_sp ws [(a, .inl (C 0, n, .inl f))] W1 [(a, .inl (C 0, n, .inl (upd f i x)))]) (hi : i < n) (hn : n < 2147483648) (hdg : decode cc pc = .ok (.iastore, 1))
    (kk : ∀ (H1 : Heap) (locs1 : List Loc), va_P D vwCl W1 H1 → va_D A W1 → va_S A H0 H1 locs1 → W p l e R s m args below meth c H1 locs1 cells slots Q (F0 m (pc + 1) ls rest)) : W p l e R s m args below meth c H locs cells slots Q (F0 m pc ls (.int x :: .int (nI i) :: .ref a :: rest)) := by
  obtain ⟨q0, h0⟩ := List.getElem?_of_mem (cu_sp.mem sp)
  refine va_iast hexec hb hK hP hD hS q0 0 h0 rfl (vp_in_nI hi hn) hdg (fun H1 locs1 hP1 hD1 hS1 => ?_)
  rw [nI_clamp (show i < 2 ^ 31 by omega)] at hP1
  exact kk H1 locs1 (cu_sp.put sp h0 hD hP1) (cu_D_fst sp.fst hD) hS1
/-- a row of rows, read -/
theorem cu_aaldA (hexec : p.tables.exec = Jvm.exec) (hb : c.code = cc) (hK : va_K D vwCl (cu_tys C) s) (hP : va_P D vwCl ws H) {n i r : Nat} {f : Nat → Option Nat} (hm : (a, .inl (C 3, n, .inr (.inr (.inr (.inr f))))) ∈ ws) (hi : i < n) (hn : n < 2147483648) (hf : f i = some r) (hdg : decode cc pc = .ok (.aaload, 1))
    (kk : W p l e R s m args below meth c H locs cells slots Q (F0 m (pc + 1) ls (.ref r :: rest))) : W p l e R s m args below meth c H locs cells slots Q (F0 m pc ls (.int (nI i) :: .ref a :: rest)) := by
  obtain ⟨q0, ha⟩ := List.getElem?_of_mem hm
  have hin : vp_in (nI i) n := vp_in_nI hi hn
  have hcl : (nI i).toNatClampNeg = i := nI_clamp (show i < 2 ^ 31 by omega)
  exact W.aald (v := .ref r) (ty := .array .int) hexec hb (hP q0 _ ha) ((hK.2 3 (C 3, .array .int) rfl).1 n (fun j => va_rf (f j))) rfl (fun q => by cases q) (by show ¬ (nI i < 0 ∨ (arrV _ _ _).slots.size ≤ _); rw [arrV_size]; exact hin) (by show (arrV _ _ _).slots[_]? = _; rw [hcl, arrV_read _ _ hi, hf]; rfl) rfl rfl hdg kk
end CUAR
theorem cu_keep {D : va_G} {X : va_W} {H H1 : Heap} (hP : va_P D vwCl X H) (hk : ∀ q : Nat, q < H.size → ¬ va_A ([] : va_W) H.size q → H1[q]? = H[q]?) : va_P D vwCl X H1 :=
  hP.kept (fun k q hq => hk q.1 (hP k q hq).lt (fun z => by
    rcases z with ⟨j, e, hj⟩ | z
    · simp at hj
    · have := (hP k q hq).lt
      omega))
/-- what a clock tells, in a row -/
def k_told (X : Nat → Int32) (b5 b10 : Int32) : Nat → Int32 := upd (upd (upd (upd (upd (upd (upd (upd (upd (upd (upd (fun _ => 0) 0 (X 0)) 1 (X 1)) 2 (X 2)) 3 (X 3)) 4 (X 4)) 5 b5) 6 (k_advW X (X 9) (X 10))) 7 (X 6)) 8 (X 7)) 9 (X 8)) 10 b10
theorem k_told_eq {X : Nat → Int32} {b5 b10 : Int32} (h : k_okc X) (e5 : b5 = if X 5 = 0 then 0 else 1) (e10 : b10 = if k_shutL X (X 0) = 0 then 0 else 1) {w : Nat} (hw : w < 11) : k_read X (nI w) = k_told X b5 b10 w := by
  rw [k_shutL_eq h] at e10
  have h9 : w = 0 ∨ w = 1 ∨ w = 2 ∨ w = 3 ∨ w = 4 ∨ w = 5 ∨ w = 6 ∨ w = 7 ∨ w = 8 ∨ w = 9 ∨ w = 10 := by omega
  rcases h9 with rfl | rfl | rfl | rfl | rfl | rfl | rfl | rfl | rfl | rfl | rfl
  · rfl
  · rfl
  · rfl
  · rfl
  · rfl
  · show (if X 5 = 0 then 0 else 1) = b5; exact e5.symm
  · rfl
  · rfl
  · rfl
  · rfl
  · show (if k_shutAt X (X 0) = 0 then 0 else 1) = b10; exact e10.symm
def k_cnts (mn x1 n go x2 x3 x4 of : Int32) : Nat → Int32 := upd (upd (upd (upd (upd (upd (upd (upd (fun _ => 0) 0 mn) 1 x1) 2 n) 3 go) 4 x2) 5 x3) 6 x4) 7 of
theorem k_cnts_eq {N : Nat} {K : Nat → Nat → Int32} {mn x2 x3 x4 : Int32} (hm : 0 ≤ mn.toInt) (h2 : x2 = k_sum (fun c => K c 6) N) (h3 : x3 = k_sum (fun c => K c 8) N) (h4 : x4 = k_sum (fun c => if k_off (K c) mn = 0 then 1 else 0) N) {w : Nat} (hw : w < 8) : k_tally N K mn (nI w) = k_cnts mn (mn - mn / 720 * 720) (nI N) (k_goSum N K) x2 x3 x4 (k_offs N K mn) w := by
  have h9 : w = 0 ∨ w = 1 ∨ w = 2 ∨ w = 3 ∨ w = 4 ∨ w = 5 ∨ w = 6 ∨ w = 7 := by omega
  rcases h9 with rfl | rfl | rfl | rfl | rfl | rfl | rfl | rfl
  · rfl
  · show k_tt mn = mn - mn / 720 * 720; exact (k_tt_M hm).symm
  · rfl
  · rfl
  · show k_all N K 7 = x2; rw [h2]; rfl
  · show k_all N K 9 = x3; rw [h3]; rfl
  · show k_trues N K mn = x4; rw [h4]; rfl
  · rfl
