/-! the shop's world: its places -/
theorem cu_row_at {a : Nat → Nat} {b : Nat} {K : Nat → Nat → Int32} {i : Nat} (h : i < 10) : (cu_row a b K)[i]? = some (a (b + i), .inr (0, cu_ck (K i))) := by
  simp [cu_row, h]
theorem cu_row_len {a : Nat → Nat} {b : Nat} {K : Nat → Nat → Int32} : (cu_row a b K).length = 10 := by simp [cu_row]
theorem cu_row_set {a : Nat → Nat} {b : Nat} {K : Nat → Nat → Int32} {i : Nat} (h : i < 10) (k' : Nat → Int32) : (cu_row a b K).set i (a (b + i), .inr (0, cu_ck k')) = cu_row a b (va_up K i k') := by
  apply List.ext_getElem?
  intro j
  by_cases hj : j = i
  · subst hj
    rw [List.getElem?_set_self (by rw [cu_row_len]; exact h), cu_row_at h, va_up_self]
  · rw [List.getElem?_set_ne (Ne.symm hj)]
    by_cases hj2 : j < 10
    · rw [cu_row_at hj2, cu_row_at hj2, va_up_ne _ _ hj]
    · rw [List.getElem?_eq_none (by rw [cu_row_len]; omega), List.getElem?_eq_none (by rw [cu_row_len]; omega)]
section CW
variable {C : Nat → ClassId} {a : Nat → Nat} {n m : Int32} {K P : Nat → Nat → Int32} {i : Nat}
theorem cu_cw_K (h : i < 10) : (cu_cw C a n m K P)[3 + i]? = some (a (3 + i), .inr (0, cu_ck (K i))) := by
  rw [show 3 + i = ((i + 1) + 1) + 1 by omega]
  unfold cu_cw
  rw [List.getElem?_cons_succ, List.getElem?_cons_succ, List.getElem?_cons_succ, List.getElem?_append_left (by rw [cu_row_len]; exact h), cu_row_at h]
  rw [show 3 + i = ((i + 1) + 1) + 1 by omega]
theorem cu_cw_P (h : i < 10) : (cu_cw C a n m K P)[13 + i]? = some (a (13 + i), .inr (0, cu_ck (P i))) := by
  rw [show 13 + i = (((10 + i) + 1) + 1) + 1 by omega]
  unfold cu_cw
  rw [List.getElem?_cons_succ, List.getElem?_cons_succ, List.getElem?_cons_succ, List.getElem?_append_right (by rw [cu_row_len]; omega), cu_row_len, show 10 + i - 10 = i by omega, cu_row_at h]
  rw [show 13 + i = (((10 + i) + 1) + 1) + 1 by omega]
theorem cu_cw_setK (h : i < 10) (k' : Nat → Int32) : (cu_cw C a n m K P).set (3 + i) (a (3 + i), .inr (0, cu_ck k')) = cu_cw C a n m (va_up K i k') P := by
  unfold cu_cw
  rw [show (3 : Nat) + i = ((i + 1) + 1) + 1 by omega, List.set_cons_succ, List.set_cons_succ, List.set_cons_succ, List.set_append_left i _ (by rw [cu_row_len]; exact h), ← cu_row_set h k']
  rw [show (3 : Nat) + i = ((i + 1) + 1) + 1 by omega]
theorem cu_cw_setP (h : i < 10) (k' : Nat → Int32) : (cu_cw C a n m K P).set (13 + i) (a (13 + i), .inr (0, cu_ck k')) = cu_cw C a n m K (va_up P i k') := by
  unfold cu_cw
  rw [show (13 : Nat) + i = (((10 + i) + 1) + 1) + 1 by omega, List.set_cons_succ, List.set_cons_succ, List.set_cons_succ, List.set_append_right _ _ (by rw [cu_row_len]; omega), cu_row_len, show 10 + i - 10 = i by omega, ← cu_row_set h k']
  rw [show (13 : Nat) + i = (((10 + i) + 1) + 1) + 1 by omega]
theorem cu_spK (h : i < 10) (k' : Nat → Int32) : cu_sp (cu_cw C a n m K P) (cu_wc (a (3 + i)) (K i)) (cu_cw C a n m (va_up K i k') P) (cu_wc (a (3 + i)) k') := by
  have h1 := cu_sp.one (.inr (0, cu_ck k')) (cu_cw_K (C := C) (a := a) (n := n) (m := m) (K := K) (P := P) h)
  rw [cu_cw_setK h] at h1
  exact h1
theorem cu_spP (h : i < 10) (k' : Nat → Int32) : cu_sp (cu_cw C a n m K P) (cu_wc (a (13 + i)) (P i)) (cu_cw C a n m K (va_up P i k')) (cu_wc (a (13 + i)) k') := by
  have h1 := cu_sp.one (.inr (0, cu_ck k')) (cu_cw_P (C := C) (a := a) (n := n) (m := m) (K := K) (P := P) h)
  rw [cu_cw_setP h] at h1
  exact h1
theorem cu_spC (h : i < 10) : cu_sp (cu_cw C a n m K P) [(a (13 + i), .inr (0, cu_ck (P i))), (a (3 + i), .inr (0, cu_ck (K i)))] (cu_cw C a n m K (va_up P i (K i))) [(a (13 + i), .inr (0, cu_ck (K i))), (a (3 + i), .inr (0, cu_ck (K i)))] := by
  have h1 := cu_sp.two (.inr (0, cu_ck (K i))) (cu_cw_P (C := C) (a := a) (n := n) (m := m) (K := K) (P := P) h) (cu_cw_K h) (by omega)
  rw [cu_cw_setP h] at h1
  exact h1
/-- the addresses are what they were, whatever the clocks hold -/
theorem cu_cw_fst {n' m' : Int32} {K' P' : Nat → Nat → Int32} : (cu_cw C a n' m' K' P').map Prod.fst = (cu_cw C a n m K P).map Prod.fst := by
  simp [cu_cw, cu_row]
  rfl
variable {p : Program} {l : Launch} {e : Env} {R : Room} {s : State} {mm : MethodId} {args : Array Value} {below : List Frame} {meth : Method} {c : Code} {H : Heap} {locs : List Loc} {cells slots : Nat} {Q : State → Prop} {cc : ByteArray} {pc : Nat} {ls : Array Slot} {rest : List Value} {D : va_G}
theorem cu_aaldK (h : i < 10) (hx : p.tables.exec = Jvm.exec) (hb : c.code = cc) (hK : va_K D vwCl (cu_tys C) s) (hP : va_P D vwCl (cu_cw C a n m K P) H) (hdg : decode cc pc = .ok (.aaload, 1))
    (k : W p l e R s mm args below meth c H locs cells slots Q (F0 mm (pc + 1) ls (.ref (a (3 + i)) :: rest))) : W p l e R s mm args below meth c H locs cells slots Q (F0 mm pc ls (.int (nI i) :: .ref (a 1) :: rest)) := by
  refine va_aldq (n := 10) (f := fun i => some (a (3 + i))) hx hb hK hP 1 1 rfl rfl (vp_in_nI h (by decide)) hdg ?_
  rw [nI_clamp (by omega)]
  exact k
theorem cu_aaldP (h : i < 10) (hx : p.tables.exec = Jvm.exec) (hb : c.code = cc) (hK : va_K D vwCl (cu_tys C) s) (hP : va_P D vwCl (cu_cw C a n m K P) H) (hdg : decode cc pc = .ok (.aaload, 1))
    (k : W p l e R s mm args below meth c H locs cells slots Q (F0 mm (pc + 1) ls (.ref (a (13 + i)) :: rest))) : W p l e R s mm args below meth c H locs cells slots Q (F0 mm pc ls (.int (nI i) :: .ref (a 2) :: rest)) := by
  refine va_aldq (n := 10) (f := fun i => some (a (13 + i))) hx hb hK hP 2 1 rfl rfl (vp_in_nI h (by decide)) hdg ?_
  rw [nI_clamp (by omega)]
  exact k
end CW
theorem cu_top {p : Program} {l : Launch} {e : Env} {R : Room} {s : State} {m : MethodId} {args : Array Value} {below : List Frame} {meth : Method} {c : Code} {H : Heap} {locs : List Loc} {cells slots : Nat} {Q : State → Prop} {pc : Nat} {ls : Array Slot} {rest : List Value} {x x' : Int32} (h : x = x') (k : W p l e R s m args below meth c H locs cells slots Q (F0 m pc ls (.int x' :: rest))) : W p l e R s m args below meth c H locs cells slots Q (F0 m pc ls (.int x :: rest)) := by rw [h]; exact k
