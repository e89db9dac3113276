section
-- ===== PART A: goes FIRST, ahead of the names: the tables' words, and 'selects' of the private methods out of them =====
/-- a private method of a class that the tables say can be made, by its rows of tables_1 -/
def lw_okq (q : MethodName × Nat) : Prop := (q.1.cls ≠ "java/lang/invoke/MethodHandle" ∧ q.1.cls ≠ "java/lang/invoke/VarHandle") ∧ Cond.instantiable q.1.cls q.2 ∈ tables_1 ∧ Cond.privateMethod q.1 ∈ tables_1 ∧ Cond.instanceMethod q.1 ∈ tables_1
theorem lw_p0 : lw_okq (⟨"CuckooShop", "checkClock", "(I)V"⟩, 4) := ⟨⟨by decide +kernel, by decide +kernel⟩, List.mem_of_getElem? (i := 13) (by decide +kernel), List.mem_of_getElem? (i := 91) (by decide +kernel), List.mem_of_getElem? (i := 92) (by decide +kernel)⟩
theorem lw_p1 : lw_okq (⟨"java/lang/Throwable", "fillInStackTrace", "(I)Ljava/lang/Throwable;"⟩, 6) := ⟨⟨by decide +kernel, by decide +kernel⟩, List.mem_of_getElem? (i := 133) (by decide +kernel), List.mem_of_getElem? (i := 131) (by decide +kernel), List.mem_of_getElem? (i := 132) (by decide +kernel)⟩
theorem lw_p2 : lw_okq (⟨"CuckooShop$Clock", "reading", "(I)I"⟩, 14) := ⟨⟨by decide +kernel, by decide +kernel⟩, List.mem_of_getElem? (i := 22) (by decide +kernel), List.mem_of_getElem? (i := 167) (by decide +kernel), List.mem_of_getElem? (i := 168) (by decide +kernel)⟩
theorem lw_p3 : lw_okq (⟨"CuckooShop$Clock", "advance", "()I"⟩, 14) := ⟨⟨by decide +kernel, by decide +kernel⟩, List.mem_of_getElem? (i := 22) (by decide +kernel), List.mem_of_getElem? (i := 171) (by decide +kernel), List.mem_of_getElem? (i := 172) (by decide +kernel)⟩
theorem lw_p4 : lw_okq (⟨"CuckooShop$Clock", "advanceWith", "(II)I"⟩, 14) := ⟨⟨by decide +kernel, by decide +kernel⟩, List.mem_of_getElem? (i := 22) (by decide +kernel), List.mem_of_getElem? (i := 175) (by decide +kernel), List.mem_of_getElem? (i := 176) (by decide +kernel)⟩
theorem lw_p5 : lw_okq (⟨"CuckooShop$Clock", "isShutAt", "(I)Z"⟩, 14) := ⟨⟨by decide +kernel, by decide +kernel⟩, List.mem_of_getElem? (i := 22) (by decide +kernel), List.mem_of_getElem? (i := 179) (by decide +kernel), List.mem_of_getElem? (i := 180) (by decide +kernel)⟩
theorem lw_p6 : lw_okq (⟨"CuckooShop", "tally", "(I)I"⟩, 4) := ⟨⟨by decide +kernel, by decide +kernel⟩, List.mem_of_getElem? (i := 13) (by decide +kernel), List.mem_of_getElem? (i := 188) (by decide +kernel), List.mem_of_getElem? (i := 189) (by decide +kernel)⟩
theorem lw_p7 : lw_okq (⟨"CuckooShop", "sumOf", "([LCuckooShop$Clock;I)I"⟩, 4) := ⟨⟨by decide +kernel, by decide +kernel⟩, List.mem_of_getElem? (i := 13) (by decide +kernel), List.mem_of_getElem? (i := 198) (by decide +kernel), List.mem_of_getElem? (i := 199) (by decide +kernel)⟩
theorem lw_p8 : lw_okq (⟨"CuckooShop", "trueClocks", "()I"⟩, 4) := ⟨⟨by decide +kernel, by decide +kernel⟩, List.mem_of_getElem? (i := 13) (by decide +kernel), List.mem_of_getElem? (i := 202) (by decide +kernel), List.mem_of_getElem? (i := 203) (by decide +kernel)⟩
theorem lw_p9 : lw_okq (⟨"CuckooShop", "offOfAll", "([LCuckooShop$Clock;I)I"⟩, 4) := ⟨⟨by decide +kernel, by decide +kernel⟩, List.mem_of_getElem? (i := 13) (by decide +kernel), List.mem_of_getElem? (i := 209) (by decide +kernel), List.mem_of_getElem? (i := 210) (by decide +kernel)⟩
theorem lw_p10 : lw_okq (⟨"CuckooShop", "runRow", "([LCuckooShop$Clock;I)I"⟩, 4) := ⟨⟨by decide +kernel, by decide +kernel⟩, List.mem_of_getElem? (i := 13) (by decide +kernel), List.mem_of_getElem? (i := 239) (by decide +kernel), List.mem_of_getElem? (i := 240) (by decide +kernel)⟩
theorem lw_p11 : lw_okq (⟨"CuckooShop$Clock", "runMinute", "(I)V"⟩, 14) := ⟨⟨by decide +kernel, by decide +kernel⟩, List.mem_of_getElem? (i := 22) (by decide +kernel), List.mem_of_getElem? (i := 243) (by decide +kernel), List.mem_of_getElem? (i := 244) (by decide +kernel)⟩
theorem lw_p12 : lw_okq (⟨"CuckooShop$Clock", "turn", "()V"⟩, 14) := ⟨⟨by decide +kernel, by decide +kernel⟩, List.mem_of_getElem? (i := 22) (by decide +kernel), List.mem_of_getElem? (i := 247) (by decide +kernel), List.mem_of_getElem? (i := 248) (by decide +kernel)⟩
theorem lw_p13 : lw_okq (⟨"CuckooShop$Clock", "cuckoo", "(I)V"⟩, 14) := ⟨⟨by decide +kernel, by decide +kernel⟩, List.mem_of_getElem? (i := 22) (by decide +kernel), List.mem_of_getElem? (i := 254) (by decide +kernel), List.mem_of_getElem? (i := 255) (by decide +kernel)⟩
theorem lw_p14 : lw_okq (⟨"CuckooShop$Clock", "wear", "(I)V"⟩, 14) := ⟨⟨by decide +kernel, by decide +kernel⟩, List.mem_of_getElem? (i := 22) (by decide +kernel), List.mem_of_getElem? (i := 261) (by decide +kernel), List.mem_of_getElem? (i := 262) (by decide +kernel)⟩
theorem lw_p15 : lw_okq (⟨"CuckooShop$Clock", "copyFrom", "(LCuckooShop$Clock;)V"⟩, 14) := ⟨⟨by decide +kernel, by decide +kernel⟩, List.mem_of_getElem? (i := 22) (by decide +kernel), List.mem_of_getElem? (i := 269) (by decide +kernel), List.mem_of_getElem? (i := 270) (by decide +kernel)⟩
def lw_privs_1 : List (MethodName × Nat) := [(⟨"CuckooShop", "checkClock", "(I)V"⟩, 4), (⟨"java/lang/Throwable", "fillInStackTrace", "(I)Ljava/lang/Throwable;"⟩, 6), (⟨"CuckooShop$Clock", "reading", "(I)I"⟩, 14), (⟨"CuckooShop$Clock", "advance", "()I"⟩, 14), (⟨"CuckooShop$Clock", "advanceWith", "(II)I"⟩, 14), (⟨"CuckooShop$Clock", "isShutAt", "(I)Z"⟩, 14), (⟨"CuckooShop", "tally", "(I)I"⟩, 4), (⟨"CuckooShop", "sumOf", "([LCuckooShop$Clock;I)I"⟩, 4), (⟨"CuckooShop", "trueClocks", "()I"⟩, 4), (⟨"CuckooShop", "offOfAll", "([LCuckooShop$Clock;I)I"⟩, 4), (⟨"CuckooShop", "runRow", "([LCuckooShop$Clock;I)I"⟩, 4), (⟨"CuckooShop$Clock", "runMinute", "(I)V"⟩, 14), (⟨"CuckooShop$Clock", "turn", "()V"⟩, 14), (⟨"CuckooShop$Clock", "cuckoo", "(I)V"⟩, 14), (⟨"CuckooShop$Clock", "wear", "(I)V"⟩, 14), (⟨"CuckooShop$Clock", "copyFrom", "(LCuckooShop$Clock;)V"⟩, 14)]
theorem lw_r1 : ∀ q ∈ lw_privs_1, lw_okq q := List.forall_mem_cons.mpr ⟨lw_p0, List.forall_mem_cons.mpr ⟨lw_p1, List.forall_mem_cons.mpr ⟨lw_p2, List.forall_mem_cons.mpr ⟨lw_p3, List.forall_mem_cons.mpr ⟨lw_p4, List.forall_mem_cons.mpr ⟨lw_p5, List.forall_mem_cons.mpr ⟨lw_p6, List.forall_mem_cons.mpr ⟨lw_p7, List.forall_mem_cons.mpr ⟨lw_p8, List.forall_mem_cons.mpr ⟨lw_p9, List.forall_mem_cons.mpr ⟨lw_p10, List.forall_mem_cons.mpr ⟨lw_p11, List.forall_mem_cons.mpr ⟨lw_p12, List.forall_mem_cons.mpr ⟨lw_p13, List.forall_mem_cons.mpr ⟨lw_p14, List.forall_mem_cons.mpr ⟨lw_p15, fun _ h => absurd h List.not_mem_nil⟩⟩⟩⟩⟩⟩⟩⟩⟩⟩⟩⟩⟩⟩⟩⟩
theorem lw_p16 : lw_okq (⟨"CuckooShop$Clock", "minutesToStand", "()I"⟩, 14) := ⟨⟨by decide +kernel, by decide +kernel⟩, List.mem_of_getElem? (i := 22) (by decide +kernel), List.mem_of_getElem? (i := 277) (by decide +kernel), List.mem_of_getElem? (i := 278) (by decide +kernel)⟩
theorem lw_p17 : lw_okq (⟨"CuckooShop", "copyClocks", "()V"⟩, 4) := ⟨⟨by decide +kernel, by decide +kernel⟩, List.mem_of_getElem? (i := 13) (by decide +kernel), List.mem_of_getElem? (i := 286) (by decide +kernel), List.mem_of_getElem? (i := 287) (by decide +kernel)⟩
theorem lw_p18 : lw_okq (⟨"CuckooShop$Clock", "putHands", "(I)V"⟩, 14) := ⟨⟨by decide +kernel, by decide +kernel⟩, List.mem_of_getElem? (i := 22) (by decide +kernel), List.mem_of_getElem? (i := 451) (by decide +kernel), List.mem_of_getElem? (i := 452) (by decide +kernel)⟩
theorem lw_p19 : lw_okq (⟨"CuckooShop$Clock", "fitTrain", "(III)V"⟩, 14) := ⟨⟨by decide +kernel, by decide +kernel⟩, List.mem_of_getElem? (i := 22) (by decide +kernel), List.mem_of_getElem? (i := 461) (by decide +kernel), List.mem_of_getElem? (i := 462) (by decide +kernel)⟩
theorem lw_p20 : lw_okq (⟨"CuckooShop$Clock", "drawUp", "()I"⟩, 14) := ⟨⟨by decide +kernel, by decide +kernel⟩, List.mem_of_getElem? (i := 22) (by decide +kernel), List.mem_of_getElem? (i := 475) (by decide +kernel), List.mem_of_getElem? (i := 476) (by decide +kernel)⟩
theorem lw_p21 : lw_okq (⟨"CuckooShop$Clock", "fillOil", "()I"⟩, 14) := ⟨⟨by decide +kernel, by decide +kernel⟩, List.mem_of_getElem? (i := 22) (by decide +kernel), List.mem_of_getElem? (i := 483) (by decide +kernel), List.mem_of_getElem? (i := 484) (by decide +kernel)⟩
theorem lw_p22 : lw_okq (⟨"CuckooShop$Clock", "patchBellows", "()I"⟩, 14) := ⟨⟨by decide +kernel, by decide +kernel⟩, List.mem_of_getElem? (i := 22) (by decide +kernel), List.mem_of_getElem? (i := 487) (by decide +kernel), List.mem_of_getElem? (i := 488) (by decide +kernel)⟩
theorem lw_p23 : lw_okq (⟨"CuckooShop$Clock", "nudge", "()I"⟩, 14) := ⟨⟨by decide +kernel, by decide +kernel⟩, List.mem_of_getElem? (i := 22) (by decide +kernel), List.mem_of_getElem? (i := 491) (by decide +kernel), List.mem_of_getElem? (i := 492) (by decide +kernel)⟩
theorem lw_p24 : lw_okq (⟨"CuckooShop$Clock", "silence", "(II)I"⟩, 14) := ⟨⟨by decide +kernel, by decide +kernel⟩, List.mem_of_getElem? (i := 22) (by decide +kernel), List.mem_of_getElem? (i := 501) (by decide +kernel), List.mem_of_getElem? (i := 502) (by decide +kernel)⟩
def lw_privs_2 : List (MethodName × Nat) := [(⟨"CuckooShop$Clock", "minutesToStand", "()I"⟩, 14), (⟨"CuckooShop", "copyClocks", "()V"⟩, 4), (⟨"CuckooShop$Clock", "putHands", "(I)V"⟩, 14), (⟨"CuckooShop$Clock", "fitTrain", "(III)V"⟩, 14), (⟨"CuckooShop$Clock", "drawUp", "()I"⟩, 14), (⟨"CuckooShop$Clock", "fillOil", "()I"⟩, 14), (⟨"CuckooShop$Clock", "patchBellows", "()I"⟩, 14), (⟨"CuckooShop$Clock", "nudge", "()I"⟩, 14), (⟨"CuckooShop$Clock", "silence", "(II)I"⟩, 14)]
theorem lw_r2 : ∀ q ∈ lw_privs_2, lw_okq q := List.forall_mem_cons.mpr ⟨lw_p16, List.forall_mem_cons.mpr ⟨lw_p17, List.forall_mem_cons.mpr ⟨lw_p18, List.forall_mem_cons.mpr ⟨lw_p19, List.forall_mem_cons.mpr ⟨lw_p20, List.forall_mem_cons.mpr ⟨lw_p21, List.forall_mem_cons.mpr ⟨lw_p22, List.forall_mem_cons.mpr ⟨lw_p23, List.forall_mem_cons.mpr ⟨lw_p24, fun _ h => absurd h List.not_mem_nil⟩⟩⟩⟩⟩⟩⟩⟩⟩
def lw_privs : List (MethodName × Nat) := lw_privs_1 ++ (lw_privs_2)
def lw_tbl : List Cond := k2_sels lw_privs ++ tables_1
theorem lw_privs_ok : ∀ q ∈ lw_privs, lw_okq q := by
  show ∀ q ∈ lw_privs_1 ++ (lw_privs_2), lw_okq q
  exact List.forall_mem_append.mpr ⟨lw_r1, lw_r2⟩
/-- the streams that the claim lets the run draw from -/
abbrev lw_cs : List Choice := [Jvm.Choice.named "NaN.bits"]
theorem lw_bits : nanBits ∈ lw_cs := by first | decide | exact List.mem_cons_self | simp [lw_cs, nanBits]
end
section
/-! ===== BEGIN words of one list among another's, by their places ===== -/
theorem goodIn_r {big : List Cond} (ws : List Cond) (ps : List Nat) (hp : ws = ps.filterMap (fun i => big[i]?)) (h : ws.all goodWord = true) : GoodIn big ws := by
  intro w hw
  have h1 := List.all_eq_true.mp h w hw
  rw [hp] at hw
  obtain ⟨i, -, hi⟩ := List.mem_filterMap.mp hw
  have hm : w ∈ big := by first | exact List.mem_of_getElem? hi | exact List.getElem?_mem hi
  exact ⟨hm, good_of_word h1⟩
theorem goodIn_app {big a b : List Cond} (ha : GoodIn big a) (hb : GoodIn big b) : GoodIn big (a ++ b) := fun w h => (List.mem_append.mp h).elim (ha w) (hb w)
theorem goodIn_ca {big a b : List Cond} {c : Cond} (ha : GoodIn big (c :: a)) (hb : GoodIn big b) : GoodIn big (c :: (a ++ b)) := fun w h => (List.mem_cons.mp h).elim (fun e => ha w (List.mem_cons.mpr (Or.inl e))) (fun h => (List.mem_append.mp h).elim (fun h => ha w (List.mem_cons.mpr (Or.inr h))) (hb w))
theorem goodIn_sub {big ws : List Cond} (hm : ∀ w ∈ ws, w ∈ big) (h : ws.all goodWord = true) : GoodIn big ws := fun w hw => ⟨hm w hw, good_of_word (List.all_eq_true.mp h w hw)⟩
/-! ===== END ===== -/

/-! ===== BEGIN new T[n][m]: the outer array a place, the inner ones among the pooled ===== -/
/-- f, but v at every address of l -/
def vr_up {α : Type} (f : Nat → α) (l : List Nat) (v : α) : Nat → α := fun a => if a ∈ l then v else f a
theorem vr_up_in {α : Type} {f : Nat → α} {l : List Nat} {v : α} {a : Nat} (h : a ∈ l) : vr_up f l v a = v := if_pos h
theorem vr_up_ne {α : Type} {f : Nat → α} {l : List Nat} {v : α} {a : Nat} (h : a ∉ l) : vr_up f l v a = f a := if_neg h
theorem vr_rows {L l : List Nat} {f : Nat → va_E} {e : va_E} (h : ∀ a, a ∈ l → a ∉ L) : va_pl L f ++ l.map (fun a => (a, e)) = va_pl (L ++ l) (vr_up f l e) := by
  unfold va_pl
  rw [List.map_append]
  congr 1
  · apply List.map_congr_left
    intro a ha
    rw [vr_up_ne (fun q => h a q ha)]
  · apply List.map_congr_left
    intro a ha
    rw [vr_up_in ha]
theorem vr_lay {X rows : va_W} {x : Nat × va_E} {pl : va_W} {D : va_G} {cl : List vw_C} {H : Heap} (hP : va_P D cl (((X ++ pl) ++ [x]) ++ rows) H) : va_P D cl ((X ++ [x]) ++ (pl ++ rows)) H := by
  rw [List.append_assoc (X ++ pl)] at hP
  have h := va_P.swap hP
  rw [← List.append_assoc X] at h
  have h2 := va_P.swap h
  rw [List.append_assoc (X ++ [x])] at h2
  exact h2
theorem vr_layD {X rows : va_W} {x : Nat × va_E} {pl : va_W} {A : Nat → Prop} (hD : va_D A (((X ++ pl) ++ [x]) ++ rows)) : va_D A ((X ++ [x]) ++ (pl ++ rows)) := by
  rw [List.append_assoc (X ++ pl)] at hD
  have h := va_D.swap hD
  rw [← List.append_assoc X] at h
  have h2 := va_D.swap h
  rw [List.append_assoc (X ++ [x])] at h2
  exact h2
theorem vr_outer (c : ClassId) (N h0 : Nat) : ∀ i : Nat, Jvm.Free.Multi.outerC c N h0 i = arrV c N (fun j => va_rf (if j < i then some (h0 + 1 + j) else none))
  | 0 => by
    show ({ cls := c, slots := Array.replicate N .null, vm := .none } : Cell) = _
    rw [arrV_new]
    refine congrArg (arrV c N) (funext fun j => ?_)
    simp [va_rf]
  | i + 1 => by
    show (Jvm.Free.Multi.outerC c N h0 i).setSlot i (.ref (h0 + 1 + i)) = _
    rw [vr_outer c N h0 i, arrV_store]
    refine congrArg (arrV c N) (funext fun j => ?_)
    by_cases e : j = i
    · subst e
      simp [updV, va_rf]
    · by_cases h : j < i
      · simp [updV, e, h, Nat.lt_succ_of_lt h]
      · simp [updV, e, h, show ¬ j < i + 1 by omega]
section VGM
variable {p : Program} {l : Launch} {e : Env} {R : Room} {s : State} {m : MethodId} {args : Array Value} {below : List Frame} {meth : Method} {c : Code} {H : Heap} {locs : List Loc} {cells slots : Nat} {Q : State → Prop}
variable {cc : ByteArray} {pc : Nat} {ls : Array Slot} {rest : List Value} {D : va_G} {cl : List vw_C} {A : Nat → Prop} {a : Nat} {tys : List (ClassId × FieldType)} {ws : va_W} {H0 : Heap}
theorem va_mna {X : va_W} {L : List Nat} {f : Nat → va_E} {cc : ByteArray} (hexec : p.tables.exec = Jvm.exec) (hb : c.code = cc) {own : String} {index : Nat} {ty : FieldType} {cy : ClassId} (hown : s.vm.findClass own = some m.cls) (hclink : (Cond.classLink own index ("[" ++ (FieldType.array ty).toString)).before args s = true) (hover : (Cond.arrayOver (.array ty)).before args s = true) (harr : (Cond.arrayClass ty).before args s = true) (hcy : s.vm.findClass (FieldType.array ty).toString = some cy)
    (hK : va_K D cl tys s) (hP : va_P D cl (X ++ va_pl L f) H) (hD : va_D A (X ++ va_pl L f)) (hS : va_S A H0 H locs) (hA : ∀ q, H0.size ≤ q → A q) {n k : Int32} {N' K' : Nat} {z : vp_A} (hn : ¬ n < 0) (hk : ¬ k < 0) (hN : n.toNatClampNeg = N') (hM : k.toNatClampNeg = K')
    (hb1 : N' * 4 ≤ 536870912) (hb2 : K' * componentBytes ty ≤ 536870912) (hb3 : K' ≤ 536870912) (hdf : fits ty (defaultValue ty) = true) (hdd : (defaultValue ty).isDefault = true) (hcells : cells + (1 + N') ≤ R.cells) (hslots : slots + (N' + N' * K') ≤ R.slots) (hz : ∀ c : ClassId, Jvm.Free.Multi.innerC c K' (defaultValue ty) = vp_cell c z) (hdg : decode cc pc = .ok (.multianewarray index 2, 4))
    (kk : ∀ (q : Nat) (r : Nat → Nat) (cA : ClassId) (H1 : Heap), (∀ i j : Nat, i < N' → j < N' → r i = r j → i = j) → (∀ i : Nat, i < N' → r i ∉ L) → va_K D cl (tys ++ [(cA, .array ty)]) s →
      va_P D cl ((X ++ [(q, .inl (cA, N', .inr (.inr (.inr (.inr (fun i => if i < N' then some (r i) else none))))))]) ++ va_pl (L ++ (List.range N').map r) (vr_up f ((List.range N').map r) (.inl (cy, z)))) H1 → va_D A ((X ++ [(q, .inl (cA, N', .inr (.inr (.inr (.inr (fun i => if i < N' then some (r i) else none))))))]) ++ va_pl (L ++ (List.range N').map r) (vr_up f ((List.range N').map r) (.inl (cy, z)))) → va_S A H0 H1 locs →
      W p l e R s m args below meth c H1 locs (cells + 1 + N') (slots + N' + N' * K') Q (F0 m (pc + 4) ls (.ref q :: rest))) : W p l e R s m args below meth c H locs cells slots Q (F0 m pc ls (.int k :: .int n :: rest)) := by
  subst hN
  subst hM
  intro T hT Xs
  obtain ⟨vm₁, cA, comp, -, fA, fC, hO, -, X', step⟩ := Xs.multianewarray2F hexec hown hclink hover harr (g := F0 m pc ls (.int k :: .int n :: rest)) rfl (by rw [hb]; exact hdg) rfl hn hk hb1 hb2 hb3 hdf hdd hcells hslots
  have ec : some cy = some comp := hcy.symm.trans fC
  cases ec
  generalize hF : Jvm.Free.Multi.fill (T.setVm vm₁) cA cy n.toNatClampNeg k.toNatClampNeg (defaultValue ty) n.toNatClampNeg = F at X' step
  have hTh : (T.setVm vm₁).heap = H := hT
  obtain ⟨f1, f2, -, -⟩ := Jvm.Free.Multi.fill_facts (T.setVm vm₁) cA cy n.toNatClampNeg k.toNatClampNeg (defaultValue ty) n.toNatClampNeg
  rw [hF, hTh] at f1 f2
  have hold : ∀ x : Nat, x < H.size → F.heap[x]? = H[x]? := fun x hx => by
    have := Jvm.Free.Multi.fill_old (T.setVm vm₁) cA cy n.toNatClampNeg k.toNatClampNeg (defaultValue ty) (a := x) (by rw [hTh]; exact hx) n.toNatClampNeg
    rw [hF, hTh] at this
    exact this
  have hrow : ∀ j : Nat, j < n.toNatClampNeg → F.heap[H.size + 1 + j]? = some (vp_cell cy z) := fun j hj => by
    have := Jvm.Free.Multi.fill_inner (T.setVm vm₁) cA cy n.toNatClampNeg k.toNatClampNeg (defaultValue ty) n.toNatClampNeg j hj
    rw [hF, hTh, hz] at this
    exact this
  have hout : Jvm.Free.Multi.outerC cA n.toNatClampNeg H.size n.toNatClampNeg = vp_cell cA (n.toNatClampNeg, .inr (.inr (.inr (.inr (fun i => if i < n.toNatClampNeg then some (H.size + 1 + i) else none))))) := by
    rw [vp_cell_q]
    exact vr_outer cA n.toNatClampNeg H.size n.toNatClampNeg
  rw [hout] at f2
  have hlt : ∀ a, a ∈ L → a < H.size := fun a ha => by
    obtain ⟨k9, hk9⟩ := va_pl_get (X := X) (f := f) ha
    exact (hP k9 _ hk9).lt
  have hnl : ∀ i : Nat, i < n.toNatClampNeg → H.size + 1 + i ∉ L := fun i _ h => by
    have := hlt _ h
    omega
  have hnm : ∀ a, a ∈ (List.range n.toNatClampNeg).map (fun i => H.size + 1 + i) → a ∉ L := fun a ha h => by
    obtain ⟨i, -, rfl⟩ := List.mem_map.mp ha
    have := hlt _ h
    omega
  have hP0 : va_P D cl (X ++ va_pl L f) F.heap := hP.kept (fun k9 x hx => hold x.1 ((hP k9 x hx).lt))
  have hP1 : va_P D cl ((X ++ va_pl L f) ++ [(H.size, .inl (cA, n.toNatClampNeg, .inr (.inr (.inr (.inr (fun i => if i < n.toNatClampNeg then some (H.size + 1 + i) else none))))))]) F.heap := hP0.app (fun k9 x hx => by
    have h0 : k9 < 1 := (List.getElem?_eq_some_iff.mp hx).1
    rw [show k9 = 0 by omega] at hx
    cases hx
    exact f2)
  have hP2 : va_P D cl (((X ++ va_pl L f) ++ [(H.size, .inl (cA, n.toNatClampNeg, .inr (.inr (.inr (.inr (fun i => if i < n.toNatClampNeg then some (H.size + 1 + i) else none))))))]) ++ ((List.range n.toNatClampNeg).map (fun i => H.size + 1 + i)).map (fun a => (a, .inl (cy, z)))) F.heap := hP1.app (fun k9 x hx => by
    obtain ⟨a, ha, rfl⟩ := List.mem_map.mp (List.mem_of_getElem? hx)
    obtain ⟨i, hi, rfl⟩ := List.mem_map.mp ha
    exact hrow i (List.mem_range.mp hi))
  have hD2 : va_D A (((X ++ va_pl L f) ++ [(H.size, .inl (cA, n.toNatClampNeg, .inr (.inr (.inr (.inr (fun i => if i < n.toNatClampNeg then some (H.size + 1 + i) else none))))))]) ++ ((List.range n.toNatClampNeg).map (fun i => H.size + 1 + i)).map (fun a => (a, .inl (cy, z)))) := by
    have hD1 := hD.push (e := .inl (cA, n.toNatClampNeg, .inr (.inr (.inr (.inr (fun i => if i < n.toNatClampNeg then some (H.size + 1 + i) else none)))))) hP rfl (hA _ hS.1)
    generalize hW1 : (X ++ va_pl L f) ++ [(H.size, .inl (cA, n.toNatClampNeg, .inr (.inr (.inr (.inr (fun i => if i < n.toNatClampNeg then some (H.size + 1 + i) else none))))))] = W1 at hD1 hP1 ⊢
    have hle : ∀ (k9 : Nat) (x : Nat × va_E), W1[k9]? = some x → x.1 ≤ H.size := fun k9 x hx => by
      rw [← hW1] at hx
      by_cases hl : k9 < (X ++ va_pl L f).length
      · rw [List.getElem?_append_left hl] at hx
        exact Nat.le_of_lt ((hP k9 x hx).lt)
      · rw [List.getElem?_append_right (by omega)] at hx
        have h0 : k9 - (X ++ va_pl L f).length < 1 := (List.getElem?_eq_some_iff.mp hx).1
        rw [show k9 - (X ++ va_pl L f).length = 0 by omega] at hx
        cases hx
        exact Nat.le_refl _
    have hr : ∀ (k9 : Nat) (x : Nat × va_E), (((List.range n.toNatClampNeg).map (fun i => H.size + 1 + i)).map (fun a => ((a, .inl (cy, z)) : Nat × va_E)))[k9]? = some x → x.1 = H.size + 1 + k9 := fun k9 x hx => by
      rw [List.getElem?_map, List.getElem?_map] at hx
      by_cases h9 : k9 < n.toNatClampNeg
      · rw [List.getElem?_range h9] at hx
        cases hx
        rfl
      · have hn0 : (List.range n.toNatClampNeg)[k9]? = none := List.getElem?_eq_none (by rw [List.length_range]; omega)
        rw [hn0] at hx
        cases hx
    refine ⟨fun i j x y hi hj hxy => ?_, fun k9 x hx => ?_⟩
    · by_cases h1 : i < W1.length <;> by_cases h2 : j < W1.length
      · rw [List.getElem?_append_left h1] at hi
        rw [List.getElem?_append_left h2] at hj
        exact hD1.1 i j x y hi hj hxy
      · rw [List.getElem?_append_left h1] at hi
        rw [List.getElem?_append_right (by omega)] at hj
        have := hle _ _ hi
        have := hr _ _ hj
        omega
      · rw [List.getElem?_append_right (by omega)] at hi
        rw [List.getElem?_append_left h2] at hj
        have := hle _ _ hj
        have := hr _ _ hi
        omega
      · rw [List.getElem?_append_right (by omega)] at hi hj
        have := hr _ _ hi
        have := hr _ _ hj
        omega
    · by_cases h1 : k9 < W1.length
      · rw [List.getElem?_append_left h1] at hx
        exact hD1.2 k9 x hx
      · rw [List.getElem?_append_right (by omega)] at hx
        have := hr _ _ hx
        exact hA _ (by have := hS.1; omega)
  have hAr : ArrOfT s cA (.array ty) := fun N9 z9 => by
    obtain ⟨-, k9, hk9, cm9, hkk9⟩ := (hO 0 0 0).1
    exact ⟨(fun q hq => by cases hq), k9, hk9, cm9, hkk9⟩
  have hK2 : va_K D cl (tys ++ [(cA, .array ty)]) s := ⟨hK.1, fun k9 x hx => by
    by_cases hl : k9 < tys.length
    · rw [List.getElem?_append_left hl] at hx
      exact hK.2 k9 x hx
    · rw [List.getElem?_append_right (by omega)] at hx
      have h0 : k9 - tys.length < 1 := (List.getElem?_eq_some_iff.mp hx).1
      rw [show k9 - tys.length = 0 by omega] at hx
      cases hx
      exact ⟨hAr, fA⟩⟩
  obtain ⟨t, a1, b1⟩ := kk H.size (fun i => H.size + 1 + i) cA F.heap (fun i j _ _ h => by have h9 : H.size + 1 + i = H.size + 1 + j := h; omega) hnl hK2 (by rw [← vr_rows hnm]; exact vr_lay hP2) (by rw [← vr_rows hnm]; exact vr_layD hD2) ⟨by rw [f1]; have := hS.1; omega, fun x h1 h2 => (hold x (Nat.lt_of_lt_of_le h1 hS.1)).trans (hS.2.1 x h1 h2), hS.2.2⟩ F rfl X'
  refine ⟨t, step t ?_, b1⟩
  have e : T.heap.size = H.size := by rw [hT]
  rw [e]
  exact a1
end VGM
/-! ===== END ===== -/

/-! ===== BEGIN exceptions that leave a method, and their catching by the caller (launches without stack traces) ===== -/
section VXA
/-! The laws vx_back, vx_callV, vx_callS, vx_callSW, vx_throw0, vx_throwS follow proofs of the library, with one case more: JvmDerived/Free/Laws.lean (Back.of_free), Shelf42/LK1.lean (callV, callS), Shelf/KitTraced.lean (throwNew0V, throwNewS). -/
/-- where a method has thrown q: the class by its name, the cell, what was written, the world -/
def vx_T (XC : String → State → State → Prop) (st : State) (q : Addr) (t : State) (mc ms : Nat) (free : Addr → Prop) : Prop :=
  ∃ (E : String) (ce : Cell) (L : List Loc), XC E st t ∧ t.heap[q]? = some ce ∧ ce.vm = .none ∧ st.vm.findClass E = some ce.cls ∧ st.WarmedH t.vm ∧ st.sameButNew ({ t with vm := st.vm } : State) L mc ms ∧ ∀ z ∈ L, free z.base
def vx_Q (Qc : Array Value → State → Outcome → State → Prop) (XC : String → State → State → Prop) (mc ms : Nat) (free : Addr → Prop) : Array Value → State → Outcome → State → Prop := fun a st o t =>
  (Qc a st o t ∧ ∃ L, FrameEnd st o t L mc ms ∧ ∀ q ∈ L, free q.base) ∨ ∃ q, o = .threw q ∧ vx_T XC st q t mc ms free
/-- a callee that returns or throws -/
def vx_Met (l : Launch) (y : MethodName) (ws : List Cond) (rm : Room) (Pc : Array Value → State → Prop) (Qc : Array Value → State → Outcome → State → Prop) (XC : String → State → State → Prop) (mc ms : Nat) (free : Addr → Prop) : Prop :=
  MetFree l y (headSpec ws rm) Pc (fun _ _ _ _ _ => True) (vx_Q Qc XC mc ms free)
def vx_Post (XC : String → State → State → Prop) (mc ms : Nat) (free : Addr → Prop) : Pt → Array Value → Addr → Pt → Prop := fun A a q B =>
  ∃ (g : JFrame) (mk : MethodId) (t : State) (L : List Loc) (E : String) (ce : Cell), B.U.heap = t.heap ∧ B.U.vm = t.vm ∧ XC E (A.U.calling g mk a) t ∧ t.heap[q]? = some ce ∧ ce.vm = .none ∧ A.U.vm.findClass E = some ce.cls ∧ B.locs = A.locs ++ L ∧ (∀ z ∈ L, free z.base) ∧ B.cells = A.cells + mc ∧ B.slots = A.slots + ms
def vx_Back (l : Launch) (R : Room) (p : Program) (e : Env) (below : List Frame) (s : State) (sargs : Array Value) (y : MethodName) (len W9 : Nat)
    (Pre : Pt → Array Value → Prop) (Post : Pt → Array Value → Option Value → Pt → Prop) (PostX : Pt → Array Value → Addr → Pt → Prop) : Prop :=
  ∀ (m : MethodId) (meth : Method) (c : Code) (A : Pt) (g : JFrame) (ig : Instr) (mk : MethodId) (a : Array Value),
    Stand p l e R s m sargs below meth c A.U A.locs A.cells A.slots → g.method = m → g.locals.size = c.maxLocals → decode c.code g.pc = .ok (ig, len) →
    2 * g.monitorRoom + (g.stack.map fun v => v.category).sum ≤ W9 → A.U.methodNamed? y = some mk → Pre A a →
    (∃ (v : Option Value) (B : Pt), Stand p l e R s m sargs below meth c B.U B.locs B.cells B.slots ∧ Post A a v B ∧
      Steps p.tables e below (doInvoke e (A.U.setTop g) [] mk a).1 (B.U.setTop { g with pc := g.pc + len, stack := v.toList ++ g.stack })) ∨
    (∃ (q : Addr) (B : Pt), Stand p l e R s m sargs below meth c B.U B.locs B.cells B.slots ∧ PostX A a q B ∧
      Steps p.tables e below (doInvoke e (A.U.setTop g) [] mk a).1 ((B.U.setTop g).pushFrame (.throwing q)))
section Payer
variable {l : Launch} {R : Room} {p : Program} {e : Env} {below : List Frame} {s : State} {sargs : Array Value} {y : MethodName} {len W9 : Nat}
theorem vx_back {ws : List Cond} {rm : Room} {Pc : Array Value → State → Prop} {Qc : Array Value → State → Outcome → State → Prop} {XC : String → State → State → Prop} {mc ms : Nat} {free : Addr → Prop} {bytes : ByteArray} {maxL : Nat} {ret : Option FieldType}
    (hM : vx_Met l y ws rm Pc Qc XC mc ms free) (hblind : FrameBlind Pc) (hrc : rm.cells = mc) (hrs : rm.slots = ms)
    (hframes : rm.frames + 1 ≤ R.frames) (hlocals : W9 + (maxL + 11) + rm.locals ≤ R.locals)
    (hws : ∀ w ∈ ws, ∀ a' U, s.WarmedH U.vm → w.before a' U = true) (hcode : Cond.code y bytes maxL ret ∈ ws) (hinit : ∀ a' U, s.WarmedH U.vm → (Cond.initialized y.cls).before a' U = true) :
    vx_Back l R p e below s sargs y len W9 (PreOf R mc ms Pc) (PostOf Qc mc ms free) (vx_Post XC mc ms free) := by
  intro m meth c A g ig mk a X hg hsize hdg hW hn hp
  have h1 : (headSpec ws rm).pre.before a A.U = true := atoms_intro fun w hw => hws w hw _ _ X.warmed
  have h2 : (Cond.code y bytes maxL ret).before a A.U = true := hws _ hcode _ _ X.warmed
  have h3 : (Cond.initialized y.cls).before a A.U = true := hinit _ _ X.warmed
  have h4 : A.cells + (headSpec ws rm).room.cells ≤ R.cells := by rw [show (headSpec ws rm).room.cells = mc from hrc]; exact hp.1
  have h5 : A.slots + (headSpec ws rm).room.slots ≤ R.slots := by rw [show (headSpec ws rm).room.slots = ms from hrs]; exact hp.2.1
  have hPc : Pc a (A.U.calling g mk a) := hblind _ _ _ _ hp.2.2
  obtain ⟨U, Ls, c0, s0⟩ := A
  dsimp only [Pt.U, Pt.locs, Pt.cells, Pt.slots] at h1 h2 h3 h4 h5 X hn hPc ⊢
  obtain ⟨methY, cY, hmY, hcY, -, hlY, -, -, -, -⟩ := Cond.code_spec hn h2
  obtain ⟨kY, hkY, -⟩ := className_of_methodNamed hn
  have hinitY : kY.init = .initialized := Cond.initialized_spec (findClass_of_methodNamed hn) hkY h3
  have h : At U g.method c below := by rw [hg]; exact X.here
  have hlocals9 : W9 + (maxL + 11) + (headSpec ws rm).room.locals ≤ R.locals := hlocals
  have happ : (headSpec ws rm).appliesLoose y e.platform (U.calling g mk a) = true :=
    Spec.appliesLoose_calling (g := g) h hdg hn hkY hinitY
      (X.room_calling (g := g) (R' := (headSpec ws rm).room) hsize hmY hcY hframes (by rw [hlY]; omega) h4 h5) h1
  obtain ⟨mid, hmid⟩ := h.above
  have hfr : (U.setTop g).frames = (.java g :: mid) ++ below := by rw [State.frames_setTop' g h.top, hmid]; rfl
  obtain ⟨o, s₂, hsteps, -, hend, hq⟩ := Steps.callFree hM p X.admits X.cas X.clock (acts := []) hfr happ hPc trivial
  have hq' : vx_Q Qc XC mc ms free a (U.calling g mk a) o s₂ := hq
  rw [State.frames_setTop' g h.top] at hend
  obtain ⟨g₀, hg0⟩ := Option.isSome_iff_exists.mp h.top
  obtain ⟨r, hr⟩ := State.topJava?_eq_some.mp hg0
  have hr' : (({ U with heap := s₂.heap, slotsUsed := s₂.slotsUsed } : State).setVm s₂.vm).frames = .java g₀ :: r := hr
  rcases hq' with ⟨hqc, L, hfe, hL⟩ | ⟨q, rfl, E, ce, L, hx, hce, hcv, hcl, hW₂, hsm, hL⟩
  · obtain ⟨⟨v, rfl⟩, hW₂, e2, q2, q3, q4, q5, q6⟩ := id hfe
    have e3 : s₂ = ({ (U.calling g mk a).setFrames s₂.frames with heap := s₂.heap, slotsUsed := s₂.slotsUsed } : State).setVm s₂.vm := by
      have : s₂ = ({ s₂ with vm := (U.calling g mk a).vm } : State).setVm s₂.vm := rfl
      rw [e2] at this
      exact this
    obtain ⟨c₂, i₂, len₂, hc₂, hd₂, hf₂⟩ := hend
    have hW' : U.WarmedH s₂.vm := hW₂
    have hcc : c₂ = c := by
      have h1 : s₂.code? g.method = U.code? g.method := by
        rw [State.code?_eq, State.code?_eq, hW'.alike.method?]
      exact Option.some.inj (hc₂.symm.trans (h1.trans h.code))
    subst hcc
    have hlen : len₂ = len := by rw [hdg] at hd₂; cases hd₂; rfl
    subst hlen
    have hs₂ : s₂ = (({ U with heap := s₂.heap, slotsUsed := s₂.slotsUsed } : State).setVm s₂.vm).setTop { g with pc := g.pc + len₂, stack := v.toList ++ g.stack } := by
      refine e3.trans ?_
      rw [hf₂, State.calling_eq h.top, State.setFrames_setFrames, State.setTop_of_frames _ hr', hr]
      rfl
    have hsame : U.sameButNew ({ U with heap := s₂.heap, slotsUsed := s₂.slotsUsed } : State) L mc ms := by
      refine ⟨?_, q2, q3, q4, q5, q6⟩
      obtain ⟨t, ht, -⟩ := State.frames_cons hr
      show ({ U with heap := s₂.heap, slotsUsed := s₂.slotsUsed } : State) = { U.setFrames U.frames with heap := s₂.heap, slotsUsed := s₂.slotsUsed }
      rw [State.setFrames_self ht]
    subst hg
    refine Or.inl ⟨v, ⟨(({ U with heap := s₂.heap, slotsUsed := s₂.slotsUsed } : State).setVm s₂.vm), Ls ++ L, c0 + mc, s0 + ms⟩,
      ⟨X.admits, X.cas, X.clock, X.frames, X.room, X.hears, X.method, X.code, (X.here.setHeapUsed s₂.heap s₂.slotsUsed).setVm hW'.alike, X.tail, State.WarmedH.trans X.warmed hW', X.limits, X.bytes, X.same.trans (hsame.setVm s.vm)⟩,
      ⟨g, mk, s₂, L, rfl, rfl, hqc, rfl, hL, rfl, rfl⟩, ?_⟩
    show Steps p.tables e below _ ((({ U with heap := s₂.heap, slotsUsed := s₂.slotsUsed } : State).setVm s₂.vm).setTop { g with pc := g.pc + len₂, stack := v.toList ++ g.stack })
    rw [← hs₂]
    exact hsteps
  · obtain ⟨e2, q2, q3, q4, q5, q6⟩ := id hsm
    have e3 : s₂ = ({ (U.calling g mk a).setFrames s₂.frames with heap := s₂.heap, slotsUsed := s₂.slotsUsed } : State).setVm s₂.vm := by
      have : s₂ = ({ s₂ with vm := (U.calling g mk a).vm } : State).setVm s₂.vm := rfl
      rw [e2] at this
      exact this
    have hf₂ : s₂.frames = .throwing q :: .java g :: U.frames.tail := hend
    have hW' : U.WarmedH s₂.vm := hW₂
    have hs₂ : s₂ = ((({ U with heap := s₂.heap, slotsUsed := s₂.slotsUsed } : State).setVm s₂.vm).setTop g).pushFrame (.throwing q) := by
      refine e3.trans ?_
      rw [hf₂, State.calling_eq h.top, State.setFrames_setFrames, State.pushFrame, State.frames_setTop _ hr', State.setTop_of_frames _ hr', State.setFrames_setFrames, hr]
      rfl
    have hsame : U.sameButNew ({ U with heap := s₂.heap, slotsUsed := s₂.slotsUsed } : State) L mc ms := by
      refine ⟨?_, q2, q3, q4, q5, q6⟩
      obtain ⟨t, ht, -⟩ := State.frames_cons hr
      show ({ U with heap := s₂.heap, slotsUsed := s₂.slotsUsed } : State) = { U.setFrames U.frames with heap := s₂.heap, slotsUsed := s₂.slotsUsed }
      rw [State.setFrames_self ht]
    subst hg
    refine Or.inr ⟨q, ⟨(({ U with heap := s₂.heap, slotsUsed := s₂.slotsUsed } : State).setVm s₂.vm), Ls ++ L, c0 + mc, s0 + ms⟩,
      ⟨X.admits, X.cas, X.clock, X.frames, X.room, X.hears, X.method, X.code, (X.here.setHeapUsed s₂.heap s₂.slotsUsed).setVm hW'.alike, X.tail, State.WarmedH.trans X.warmed hW', X.limits, X.bytes, X.same.trans (hsame.setVm s.vm)⟩,
      ⟨g, mk, s₂, L, E, ce, rfl, rfl, hx, hce, hcv, hcl, rfl, hL, rfl, rfl⟩, ?_⟩
    show Steps p.tables e below _ (((({ U with heap := s₂.heap, slotsUsed := s₂.slotsUsed } : State).setVm s₂.vm).setTop g).pushFrame (.throwing q))
    rw [← hs₂]
    exact hsteps
end Payer
section Calls
variable {p : Program} {l : Launch} {e : Env} {R : Room} {s : State} {m : MethodId} {args : Array Value} {below : List Frame} {meth : Method} {c : Code} {T : State} {locs : List Loc} {cells slots : Nat}
theorem vx_callV (X : Stand p l e R s m args below meth c T locs cells slots) (hexec : p.tables.exec = Jvm.exec) {own C : String} {index : Nat} {y : MethodName} {bytes : ByteArray} {maxL : Nat} {ret : Option FieldType}
    (hown : s.vm.findClass own = some m.cls) (hlink : (Cond.methodLink own index y).before args s = true) (hinst : (Cond.instanceMethod y).before args s = true) (hsel : (Cond.selects C y y).before args s = true)
    (hcode : (Cond.code y bytes maxL ret).before args s = true) (hy : y.cls ≠ "java/lang/invoke/MethodHandle" ∧ y.cls ≠ "java/lang/invoke/VarHandle")
    {W9 : Nat} {Pre : Pt → Array Value → Prop} {Post : Pt → Array Value → Option Value → Pt → Prop} {PostX : Pt → Array Value → Addr → Pt → Prop} (hK : vx_Back l R p e below s args y 3 W9 Pre Post PostX)
    {b : Addr} {cellB : Cell} (hcell : T.heap[b]? = some cellB) (hobj : cellB.vm.isStatics = false) (hcls : s.vm.findClass C = some cellB.cls)
    {g : JFrame} (hg : g.method = m) (hsize : g.locals.size = c.maxLocals) {argsL rest : List Value} (hlen : ∀ sig, parseMethodDescriptor y.desc = some sig → argsL.length = sig.parameters.length)
    (hstack : g.stack = argsL.reverse ++ .ref b :: rest) (hW : 2 * g.monitorRoom + (rest.map fun v => v.category).sum ≤ W9) (hdg : decode c.code g.pc = .ok (.invokevirtual index, 3))
    (hpre : ∀ vm₁, s.WarmedH vm₁ → Pre ⟨T.setVm vm₁, locs, cells, slots⟩ (Value.ref b :: argsL).toArray) :
    (∃ (v : Option Value) (vm₁ : Vm) (B : Pt), s.WarmedH vm₁ ∧ Stand p l e R s m args below meth c B.U B.locs B.cells B.slots ∧ Post ⟨T.setVm vm₁, locs, cells, slots⟩ (Value.ref b :: argsL).toArray v B ∧
      ∀ target, Steps p.tables e below (B.U.setTop { g with pc := g.pc + 3, stack := v.toList ++ rest }) target → Steps p.tables e below (T.setTop g) target) ∨
    (∃ (q : Addr) (vm₁ : Vm) (B : Pt), s.WarmedH vm₁ ∧ Stand p l e R s m args below meth c B.U B.locs B.cells B.slots ∧ PostX ⟨T.setVm vm₁, locs, cells, slots⟩ (Value.ref b :: argsL).toArray q B ∧
      Steps p.tables e below (T.setTop g) ((B.U.setTop { g with stack := rest }).pushFrame (.throwing q))) := by
  obtain ⟨mk, methM, hnamed, hmethM, hstM, habM⟩ := Cond.instanceMethod_spec hinst
  obtain ⟨methM', cM, hmethM', -, -, -, -, -, -, hsigM⟩ := Cond.code_spec hnamed hcode
  cases hmethM.symm.trans hmethM'
  obtain ⟨c2, r2, m2, q1, q2, q3, q4, kP, hkP, hkPi⟩ := Cond.selects_spec hsel
  cases hcls.symm.trans q1
  cases (State.methodFound?_of_named hnamed hy).symm.trans q2
  cases hnamed.symm.trans q3
  have hselP : selectMethod e.platform s.vm cellB.cls mk = .method mk := by rw [Launch.admits_selectMethod X.admits]; exact q4
  obtain ⟨vm₁, X₁, hstep₁⟩ := X.invokevirtual hexec hown hlink hnamed hmethM hstM hkP hkPi hy (a := b) (cell := cellB) hcell
    (fun z h => by rw [h] at hobj; cases hobj) hselP hmethM habM hkP hkPi (g := g) hg (argsL := argsL) (rest := rest) (hlen _ hsigM) hstack hdg
  rcases hK m meth c ⟨T.setVm vm₁, locs, cells, slots⟩ { g with stack := rest } (.invokevirtual index) mk (Value.ref b :: argsL).toArray X₁ hg hsize hdg hW (X₁.named hnamed) (hpre vm₁ X₁.warmed) with ⟨v, B, X', hpost, hsteps⟩ | ⟨q, B, X', hpost, hsteps⟩
  · exact Or.inl ⟨v, vm₁, B, X₁.warmed, X', hpost, fun target h => hstep₁ _ fun acts => by rw [doInvoke_state]; exact hsteps.trans h⟩
  · exact Or.inr ⟨q, vm₁, B, X₁.warmed, X', hpost, hstep₁ _ fun acts => by rw [doInvoke_state]; exact hsteps⟩
theorem vx_callS (X : Stand p l e R s m args below meth c T locs cells slots) (hexec : p.tables.exec = Jvm.exec) {own : String} {index : Nat} {y : MethodName} {bytes : ByteArray} {maxL : Nat} {ret : Option FieldType}
    (hown : s.vm.findClass own = some m.cls) (hlink : (Cond.methodLink own index y).before args s = true) (hstat : (Cond.static y).before args s = true) (hinit : (Cond.initialized y.cls).before args s = true)
    (hcode : (Cond.code y bytes maxL ret).before args s = true) (hy : y.cls ≠ "java/lang/invoke/MethodHandle" ∧ y.cls ≠ "java/lang/invoke/VarHandle")
    {W9 : Nat} {Pre : Pt → Array Value → Prop} {Post : Pt → Array Value → Option Value → Pt → Prop} {PostX : Pt → Array Value → Addr → Pt → Prop} (hK : vx_Back l R p e below s args y 3 W9 Pre Post PostX)
    {g : JFrame} (hg : g.method = m) (hsize : g.locals.size = c.maxLocals) {argsL rest : List Value} (hlen : ∀ sig, parseMethodDescriptor y.desc = some sig → argsL.length = sig.parameters.length)
    (hstack : g.stack = argsL.reverse ++ rest) (hW : 2 * g.monitorRoom + (rest.map fun v => v.category).sum ≤ W9) (hdg : decode c.code g.pc = .ok (.invokestatic index, 3))
    (hpre : ∀ vm₁, s.WarmedH vm₁ → Pre ⟨T.setVm vm₁, locs, cells, slots⟩ argsL.toArray) :
    (∃ (v : Option Value) (vm₁ : Vm) (B : Pt), s.WarmedH vm₁ ∧ Stand p l e R s m args below meth c B.U B.locs B.cells B.slots ∧ Post ⟨T.setVm vm₁, locs, cells, slots⟩ argsL.toArray v B ∧
      ∀ target, Steps p.tables e below (B.U.setTop { g with pc := g.pc + 3, stack := v.toList ++ rest }) target → Steps p.tables e below (T.setTop g) target) ∨
    (∃ (q : Addr) (vm₁ : Vm) (B : Pt), s.WarmedH vm₁ ∧ Stand p l e R s m args below meth c B.U B.locs B.cells B.slots ∧ PostX ⟨T.setVm vm₁, locs, cells, slots⟩ argsL.toArray q B ∧
      Steps p.tables e below (T.setTop g) ((B.U.setTop { g with stack := rest }).pushFrame (.throwing q))) := by
  obtain ⟨mk, hnamed⟩ := Cond.code_named hcode
  obtain ⟨methM, cM, hmethM, -, -, -, -, -, -, hsigM⟩ := Cond.code_spec hnamed hcode
  have hstatic : methM.isStatic = true := Cond.static_spec hnamed hmethM hstat
  obtain ⟨kP, hkP, -⟩ := className_of_methodNamed hnamed
  have hinitP : kP.init = .initialized := Cond.initialized_spec (findClass_of_methodNamed hnamed) hkP hinit
  obtain ⟨vm₁, X₁, hstep₁⟩ := X.invokestatic hexec hown hlink hnamed hmethM hstatic hkP hinitP hy (g := g) hg (argsL := argsL) (rest := rest) (hlen _ hsigM) hstack hdg
  rcases hK m meth c ⟨T.setVm vm₁, locs, cells, slots⟩ { g with stack := rest } (.invokestatic index) mk argsL.toArray X₁ hg hsize hdg hW (X₁.named hnamed) (hpre vm₁ X₁.warmed) with ⟨v, B, X', hpost, hsteps⟩ | ⟨q, B, X', hpost, hsteps⟩
  · exact Or.inl ⟨v, vm₁, B, X₁.warmed, X', hpost, fun target h => hstep₁ _ fun acts => by rw [doInvoke_state]; exact hsteps.trans h⟩
  · exact Or.inr ⟨q, vm₁, B, X₁.warmed, X', hpost, hstep₁ _ fun acts => by rw [doInvoke_state]; exact hsteps⟩
end Calls
theorem vx_cls {s : State} {T : State} {vm₁ : Vm} {E : String} {k : ClassId} (hW : s.WarmedH vm₁) (h : (T.setVm vm₁).vm.findClass E = some k) : s.vm.findClass E = some k := by
  have h1 : vm₁.findClass E = some k := h
  rw [hW.alike.findClass] at h1
  exact h1
/-- the method's frame g, with q thrown over it -/
def vx_W (p : Program) (l : Launch) (e : Env) (R : Room) (s : State) (m : MethodId) (args : Array Value) (below : List Frame) (meth : Method) (c : Code) (H : Heap) (locs : List Loc) (cells slots : Nat) (Q : State → Prop) (g : JFrame) (q : Addr) : Prop :=
  ∀ T : State, T.heap = H → Stand p l e R s m args below meth c T locs cells slots → ∃ t, Steps p.tables e below ((T.setTop g).pushFrame (.throwing q)) t ∧ Q t
def vx_Run (p : Program) (l : Launch) (e : Env) (R : Room) (s : State) (m : MethodId) (args : Array Value) (below : List Frame) (meth : Method) (c : Code) (H : Heap) (locs : List Loc) (cells slots mc ms : Nat) (g : JFrame) (rest : List Value) (Qa : State → Outcome → State → Prop) (XC : String → State → State → Prop) (free : Addr → Prop) : Prop :=
  ∀ T : State, T.heap = H → Stand p l e R s m args below meth c T locs cells slots →
    (∃ (v : Option Value) (st₀ t T' : State) (L : List Loc), st₀.heap = H ∧ Stand p l e R s m args below meth c T' (locs ++ L) (cells + mc) (slots + ms) ∧ (∀ q ∈ L, free q.base) ∧ T'.heap = t.heap ∧ T'.vm = t.vm ∧ Qa st₀ (.returned v) t ∧
      Goes p e below T g T' { g with pc := g.pc + 3, stack := v.toList ++ rest }) ∨
    (∃ (q : Addr) (st₀ t T' : State) (L : List Loc) (E : String) (ce : Cell), st₀.heap = H ∧ Stand p l e R s m args below meth c T' (locs ++ L) (cells + mc) (slots + ms) ∧ (∀ z ∈ L, free z.base) ∧ T'.heap = t.heap ∧ T'.vm = t.vm ∧ XC E st₀ t ∧ t.heap[q]? = some ce ∧ ce.vm = .none ∧ s.vm.findClass E = some ce.cls ∧
      Steps p.tables e below (T.setTop g) ((T'.setTop { g with stack := rest }).pushFrame (.throwing q)))
def vx_X {S : Type} (px : S → Prop) (B : String → S → State → Prop) (A : Nat → Prop) : String → State → State → Prop := fun E st t => ∃ u : S, px u ∧ B E u t ∧ va_F A st t
section Runs
variable {p : Program} {l : Launch} {e : Env} {R : Room} {s : State} {m : MethodId} {args : Array Value} {below : List Frame} {meth : Method} {c : Code} {H : Heap} {locs : List Loc} {cells slots : Nat}
variable {y : MethodName} {bytes cc : ByteArray} {maxL nL mc ms n index : Nat} {ret : Option FieldType} {ws : List Cond} {rm : Room} {Pc : Array Value → State → Prop} {Qc : Array Value → State → Outcome → State → Prop} {XC : String → State → State → Prop} {free : Addr → Prop} {Ts : List Cond} {own C : String} {b : Addr} {As rest : List Value} {g : JFrame}
theorem vx_callBack (cb : CallB R s args own index y bytes maxL ret ws rm mc ms n) (hM : vx_Met l y ws rm Pc Qc XC mc ms free) (hbl : FrameBlind Pc) : vx_Back l R p e below s args y 3 8 (PreOf R mc ms Pc) (PostOf Qc mc ms free) (vx_Post XC mc ms free) := by
  obtain ⟨hrc, hrs, hfr, hlo, hws, hcw, -, hini, -⟩ := cb
  exact vx_back (bytes := bytes) (maxL := maxL) (ret := ret) hM hbl hrc hrs hfr hlo hws hcw (fun a' U hW => word_at hW (Or.inl (by first | rfl | simp [Cond.onTables, Cond.keeps, Cond.steady])) hini)
theorem vx_runV (S : CallFix p m c cc nL s args Ts own) (hM : vx_Met l y ws rm Pc Qc XC mc ms free) (cw : CallW R s args own C index y bytes maxL ret ws rm mc ms n) (hp : PreV s H C b Pc As)
    (hg : g.method = m) (hn : As.length = n) (hsize : g.locals.size = nL) (hstack : g.stack = As.reverse ++ .ref b :: rest) (hW : 2 * g.monitorRoom + (rest.map fun v => v.category).sum ≤ 8) (hdg : decode cc g.pc = .ok (.invokevirtual index, 3)) (hf : cells + mc ≤ R.cells ∧ slots + ms ≤ R.slots) :
    vx_Run p l e R s m args below meth c H locs cells slots mc ms g rest (Qc (Value.ref b :: As).toArray) XC free := by
  have hK : vx_Back l R p e below s args y 3 8 (PreOf R mc ms Pc) (PostOf Qc mc ms free) (vx_Post XC mc ms free) := vx_callBack cw.1 hM hp.1
  obtain ⟨⟨-, -, -, -, -, -, hcode, -, hy, hlen, hl⟩, hin, hse⟩ := cw
  obtain ⟨hx, hb, hml, ho, -⟩ := S
  obtain ⟨-, ⟨cellB, hcB, hoB, hclB⟩, hPc⟩ := hp
  intro T hT X
  rcases vx_callV X hx (C := C) (bytes := bytes) (maxL := maxL) (ret := ret) ho hl hin hse hcode hy hK (by rw [hT]; exact hcB) hoB hclB hg (hsize.trans hml.symm) (argsL := As) (rest := rest) (fun sig h => hn.trans (hlen sig h)) hstack hW (by rw [hb]; exact hdg)
    (fun vm₁ hW₁ => ⟨hf.1, hf.2, hPc (T.setVm vm₁) hT hW₁⟩) with ⟨v, vm₁, ⟨U', l2, c2, s2⟩, hW₁, X', ⟨g', mk, t, L, e1, e2, hq, h1, hL, h2, h3⟩, st⟩ | ⟨q, vm₁, ⟨U', l2, c2, s2⟩, hW₁, X', ⟨g', mk, t, L, E, ce, e1, e2, hq, hce, hcv, hcl, h1, hL, h2, h3⟩, st⟩
  · dsimp only [Pt.U, Pt.locs, Pt.cells, Pt.slots] at X' e1 e2 h1 h2 h3 st
    subst h1; subst h2; subst h3
    exact Or.inl ⟨v, (T.setVm vm₁).calling g' mk (Value.ref b :: As).toArray, t, U', L, hT, X', hL, e1, e2, hq, st⟩
  · dsimp only [Pt.U, Pt.locs, Pt.cells, Pt.slots] at X' e1 e2 h1 h2 h3 st hcl
    subst h1; subst h2; subst h3
    exact Or.inr ⟨q, (T.setVm vm₁).calling g' mk (Value.ref b :: As).toArray, t, U', L, E, ce, hT, X', hL, e1, e2, hq, hce, hcv, vx_cls hW₁ hcl, st⟩
theorem vx_runS (S : CallFix p m c cc nL s args Ts own) (hM : vx_Met l y ws rm Pc Qc XC mc ms free) (cw : CallB R s args own index y bytes maxL ret ws rm mc ms n ∧ (Cond.static y).before args s = true) (hp : PreS s H Pc As)
    (hg : g.method = m) (hn : As.length = n) (hsize : g.locals.size = nL) (hstack : g.stack = As.reverse ++ rest) (hW : 2 * g.monitorRoom + (rest.map fun v => v.category).sum ≤ 8) (hdg : decode cc g.pc = .ok (.invokestatic index, 3)) (hf : cells + mc ≤ R.cells ∧ slots + ms ≤ R.slots) :
    vx_Run p l e R s m args below meth c H locs cells slots mc ms g rest (Qc As.toArray) XC free := by
  have hK : vx_Back l R p e below s args y 3 8 (PreOf R mc ms Pc) (PostOf Qc mc ms free) (vx_Post XC mc ms free) := vx_callBack cw.1 hM hp.1
  obtain ⟨⟨-, -, -, -, -, -, hcode, hini, hy, hlen, hl⟩, hstt⟩ := cw
  obtain ⟨hx, hb, hml, ho, -⟩ := S
  intro T hT X
  rcases vx_callS X hx (bytes := bytes) (maxL := maxL) (ret := ret) ho hl hstt hini hcode hy hK hg (hsize.trans hml.symm) (argsL := As) (rest := rest) (fun sig h => hn.trans (hlen sig h)) hstack hW (by rw [hb]; exact hdg)
    (fun vm₁ hW₁ => ⟨hf.1, hf.2, hp.2 (T.setVm vm₁) hT hW₁⟩) with ⟨v, vm₁, ⟨U', l2, c2, s2⟩, hW₁, X', ⟨g', mk, t, L, e1, e2, hq, h1, hL, h2, h3⟩, st⟩ | ⟨q, vm₁, ⟨U', l2, c2, s2⟩, hW₁, X', ⟨g', mk, t, L, E, ce, e1, e2, hq, hce, hcv, hcl, h1, hL, h2, h3⟩, st⟩
  · dsimp only [Pt.U, Pt.locs, Pt.cells, Pt.slots] at X' e1 e2 h1 h2 h3 st
    subst h1; subst h2; subst h3
    exact Or.inl ⟨v, (T.setVm vm₁).calling g' mk As.toArray, t, U', L, hT, X', hL, e1, e2, hq, st⟩
  · dsimp only [Pt.U, Pt.locs, Pt.cells, Pt.slots] at X' e1 e2 h1 h2 h3 st hcl
    subst h1; subst h2; subst h3
    exact Or.inr ⟨q, (T.setVm vm₁).calling g' mk As.toArray, t, U', L, E, ce, hT, X', hL, e1, e2, hq, hce, hcv, vx_cls hW₁ hcl, st⟩
end Runs
section Rows
variable {p : Program} {l : Launch} {e : Env} {R : Room} {s : State} {m : MethodId} {args : Array Value} {below : List Frame} {meth : Method} {c : Code} {H : Heap} {locs : List Loc} {cells slots : Nat} {Q : State → Prop}
variable {mc ms : Nat} {free : Addr → Prop} {A0 A1 : Nat → Prop} {H0 : Heap} {a : Array Value} {pc : Nat} {ls : Array Slot} {st0 rest : List Value}
theorem vx_keep {st₀ t T' : State} {L : List Loc} (h0 : st₀.heap = H) (e1 : T'.heap = t.heap) (hS : va_S A0 H0 H locs) (hA : ∀ q, q < H.size → A1 q → A0 q) (hf : ∀ q, free q → A0 q) (hL : ∀ q ∈ L, free q.base) (hF : va_F A1 st₀ t) :
    H.size ≤ T'.heap.size ∧ (∀ q : Nat, q < H.size → ¬ A1 q → T'.heap[q]? = H[q]?) ∧ va_S A0 H0 T'.heap (locs ++ L) := by
  obtain ⟨hz, hk⟩ := hF
  rw [h0] at hz hk
  exact ⟨by rw [e1]; exact hz, fun q h1 h2 => by rw [e1]; exact hk q h1 h2,
    ⟨Nat.le_trans hS.1 (by rw [e1]; exact hz), fun q h1 h2 => by rw [e1, hk q (Nat.lt_of_lt_of_le h1 hS.1) (fun z => h2 (hA q (Nat.lt_of_lt_of_le h1 hS.1) z))]; exact hS.2.1 q h1 h2, fun q hq => by
      rcases List.mem_append.mp hq with h | h
      · exact hS.2.2 q h
      · exact hf _ (hL q h)⟩⟩
theorem vx_calli {S SX : Type} {post : Int32 → S → Prop} {px : SX → Prop} {B : S → State → Prop} {BX : String → SX → State → Prop} {AX : Nat → Prop} (hr : vx_Run p l e R s m args below meth c H locs cells slots mc ms (F0 m pc ls st0) rest (va_Qi post B A1 a) (vx_X px BX AX) free) (hS : va_S A0 H0 H locs) (hA : ∀ q, q < H.size → A1 q → A0 q) (hf : ∀ q, free q → A0 q) (hAX : ∀ q, q < H.size → AX q → A0 q)
    (kx : ∀ (E : String) (ce : Cell) (q9 : Addr) (u : SX) (t : State) (H1 : Heap) (locs1 : List Loc), t.heap = H1 → s.vm.Alike t.vm → px u → BX E u t → H.size ≤ H1.size → (∀ q : Nat, q < H.size → ¬ AX q → H1[q]? = H[q]?) → va_S A0 H0 H1 locs1 → H1[q9]? = some ce → ce.vm = .none → s.vm.findClass E = some ce.cls → vx_W p l e R s m args below meth c H1 locs1 (cells + mc) (slots + ms) Q (F0 m pc ls rest) q9)
    (kk : ∀ (r : Int32) (u : S) (t : State) (H1 : Heap) (locs1 : List Loc), t.heap = H1 → s.vm.Alike t.vm → post r u → B u t → H.size ≤ H1.size → (∀ q : Nat, q < H.size → ¬ A1 q → H1[q]? = H[q]?) → va_S A0 H0 H1 locs1 → W p l e R s m args below meth c H1 locs1 (cells + mc) (slots + ms) Q (F0 m (pc + 3) ls (.int r :: rest))) : W p l e R s m args below meth c H locs cells slots Q (F0 m pc ls st0) := by
  intro T hT X
  rcases hr T hT X with ⟨v, st₀, t, T', L, h0, X', hL, e1, e2, ⟨⟨r, u, hv, hp, hb⟩, hF⟩, st⟩ | ⟨q, st₀, t, T', L, E, ce, h0, X', hL, e1, e2, ⟨u, hp, hb, hF⟩, hce, hcv, hcl, st⟩
  · cases hv
    obtain ⟨k1, k2, k3⟩ := vx_keep h0 e1 hS hA hf hL hF
    obtain ⟨t2, a1, b1⟩ := kk r u t T'.heap (locs ++ L) e1.symm (by rw [← e2]; exact X'.warmed.alike) hp hb k1 k2 k3 T' rfl X'
    exact ⟨t2, st t2 a1, b1⟩
  · obtain ⟨k1, k2, k3⟩ := vx_keep h0 e1 hS hAX hf hL hF
    obtain ⟨t2, a1, b1⟩ := kx E ce q u t T'.heap (locs ++ L) e1.symm (by rw [← e2]; exact X'.warmed.alike) hp hb k1 k2 k3 (by rw [e1]; exact hce) hcv hcl T' rfl X'
    exact ⟨t2, st.trans a1, b1⟩
theorem vx_calll {S SX : Type} {post : Int64 → S → Prop} {px : SX → Prop} {B : S → State → Prop} {BX : String → SX → State → Prop} {AX : Nat → Prop} (hr : vx_Run p l e R s m args below meth c H locs cells slots mc ms (F0 m pc ls st0) rest (va_Ql post B A1 a) (vx_X px BX AX) free) (hS : va_S A0 H0 H locs) (hA : ∀ q, q < H.size → A1 q → A0 q) (hf : ∀ q, free q → A0 q) (hAX : ∀ q, q < H.size → AX q → A0 q)
    (kx : ∀ (E : String) (ce : Cell) (q9 : Addr) (u : SX) (t : State) (H1 : Heap) (locs1 : List Loc), t.heap = H1 → s.vm.Alike t.vm → px u → BX E u t → H.size ≤ H1.size → (∀ q : Nat, q < H.size → ¬ AX q → H1[q]? = H[q]?) → va_S A0 H0 H1 locs1 → H1[q9]? = some ce → ce.vm = .none → s.vm.findClass E = some ce.cls → vx_W p l e R s m args below meth c H1 locs1 (cells + mc) (slots + ms) Q (F0 m pc ls rest) q9)
    (kk : ∀ (r : Int64) (u : S) (t : State) (H1 : Heap) (locs1 : List Loc), t.heap = H1 → s.vm.Alike t.vm → post r u → B u t → H.size ≤ H1.size → (∀ q : Nat, q < H.size → ¬ A1 q → H1[q]? = H[q]?) → va_S A0 H0 H1 locs1 → W p l e R s m args below meth c H1 locs1 (cells + mc) (slots + ms) Q (F0 m (pc + 3) ls (.long r :: rest))) : W p l e R s m args below meth c H locs cells slots Q (F0 m pc ls st0) := by
  intro T hT X
  rcases hr T hT X with ⟨v, st₀, t, T', L, h0, X', hL, e1, e2, ⟨⟨r, u, hv, hp, hb⟩, hF⟩, st⟩ | ⟨q, st₀, t, T', L, E, ce, h0, X', hL, e1, e2, ⟨u, hp, hb, hF⟩, hce, hcv, hcl, st⟩
  · cases hv
    obtain ⟨k1, k2, k3⟩ := vx_keep h0 e1 hS hA hf hL hF
    obtain ⟨t2, a1, b1⟩ := kk r u t T'.heap (locs ++ L) e1.symm (by rw [← e2]; exact X'.warmed.alike) hp hb k1 k2 k3 T' rfl X'
    exact ⟨t2, st t2 a1, b1⟩
  · obtain ⟨k1, k2, k3⟩ := vx_keep h0 e1 hS hAX hf hL hF
    obtain ⟨t2, a1, b1⟩ := kx E ce q u t T'.heap (locs ++ L) e1.symm (by rw [← e2]; exact X'.warmed.alike) hp hb k1 k2 k3 (by rw [e1]; exact hce) hcv hcl T' rfl X'
    exact ⟨t2, st.trans a1, b1⟩
theorem vx_callf {S SX : Type} {post : UInt32 → S → Prop} {px : SX → Prop} {B : S → State → Prop} {BX : String → SX → State → Prop} {AX : Nat → Prop} (hr : vx_Run p l e R s m args below meth c H locs cells slots mc ms (F0 m pc ls st0) rest (va_Qf post B A1 a) (vx_X px BX AX) free) (hS : va_S A0 H0 H locs) (hA : ∀ q, q < H.size → A1 q → A0 q) (hf : ∀ q, free q → A0 q) (hAX : ∀ q, q < H.size → AX q → A0 q)
    (kx : ∀ (E : String) (ce : Cell) (q9 : Addr) (u : SX) (t : State) (H1 : Heap) (locs1 : List Loc), t.heap = H1 → s.vm.Alike t.vm → px u → BX E u t → H.size ≤ H1.size → (∀ q : Nat, q < H.size → ¬ AX q → H1[q]? = H[q]?) → va_S A0 H0 H1 locs1 → H1[q9]? = some ce → ce.vm = .none → s.vm.findClass E = some ce.cls → vx_W p l e R s m args below meth c H1 locs1 (cells + mc) (slots + ms) Q (F0 m pc ls rest) q9)
    (kk : ∀ (r : UInt32) (u : S) (t : State) (H1 : Heap) (locs1 : List Loc), t.heap = H1 → s.vm.Alike t.vm → post r u → B u t → H.size ≤ H1.size → (∀ q : Nat, q < H.size → ¬ A1 q → H1[q]? = H[q]?) → va_S A0 H0 H1 locs1 → W p l e R s m args below meth c H1 locs1 (cells + mc) (slots + ms) Q (F0 m (pc + 3) ls (.float r :: rest))) : W p l e R s m args below meth c H locs cells slots Q (F0 m pc ls st0) := by
  intro T hT X
  rcases hr T hT X with ⟨v, st₀, t, T', L, h0, X', hL, e1, e2, ⟨⟨r, u, hv, hp, hb⟩, hF⟩, st⟩ | ⟨q, st₀, t, T', L, E, ce, h0, X', hL, e1, e2, ⟨u, hp, hb, hF⟩, hce, hcv, hcl, st⟩
  · cases hv
    obtain ⟨k1, k2, k3⟩ := vx_keep h0 e1 hS hA hf hL hF
    obtain ⟨t2, a1, b1⟩ := kk r u t T'.heap (locs ++ L) e1.symm (by rw [← e2]; exact X'.warmed.alike) hp hb k1 k2 k3 T' rfl X'
    exact ⟨t2, st t2 a1, b1⟩
  · obtain ⟨k1, k2, k3⟩ := vx_keep h0 e1 hS hAX hf hL hF
    obtain ⟨t2, a1, b1⟩ := kx E ce q u t T'.heap (locs ++ L) e1.symm (by rw [← e2]; exact X'.warmed.alike) hp hb k1 k2 k3 (by rw [e1]; exact hce) hcv hcl T' rfl X'
    exact ⟨t2, st.trans a1, b1⟩
theorem vx_calld {S SX : Type} {post : UInt64 → S → Prop} {px : SX → Prop} {B : S → State → Prop} {BX : String → SX → State → Prop} {AX : Nat → Prop} (hr : vx_Run p l e R s m args below meth c H locs cells slots mc ms (F0 m pc ls st0) rest (va_Qd post B A1 a) (vx_X px BX AX) free) (hS : va_S A0 H0 H locs) (hA : ∀ q, q < H.size → A1 q → A0 q) (hf : ∀ q, free q → A0 q) (hAX : ∀ q, q < H.size → AX q → A0 q)
    (kx : ∀ (E : String) (ce : Cell) (q9 : Addr) (u : SX) (t : State) (H1 : Heap) (locs1 : List Loc), t.heap = H1 → s.vm.Alike t.vm → px u → BX E u t → H.size ≤ H1.size → (∀ q : Nat, q < H.size → ¬ AX q → H1[q]? = H[q]?) → va_S A0 H0 H1 locs1 → H1[q9]? = some ce → ce.vm = .none → s.vm.findClass E = some ce.cls → vx_W p l e R s m args below meth c H1 locs1 (cells + mc) (slots + ms) Q (F0 m pc ls rest) q9)
    (kk : ∀ (r : UInt64) (u : S) (t : State) (H1 : Heap) (locs1 : List Loc), t.heap = H1 → s.vm.Alike t.vm → post r u → B u t → H.size ≤ H1.size → (∀ q : Nat, q < H.size → ¬ A1 q → H1[q]? = H[q]?) → va_S A0 H0 H1 locs1 → W p l e R s m args below meth c H1 locs1 (cells + mc) (slots + ms) Q (F0 m (pc + 3) ls (.double r :: rest))) : W p l e R s m args below meth c H locs cells slots Q (F0 m pc ls st0) := by
  intro T hT X
  rcases hr T hT X with ⟨v, st₀, t, T', L, h0, X', hL, e1, e2, ⟨⟨r, u, hv, hp, hb⟩, hF⟩, st⟩ | ⟨q, st₀, t, T', L, E, ce, h0, X', hL, e1, e2, ⟨u, hp, hb, hF⟩, hce, hcv, hcl, st⟩
  · cases hv
    obtain ⟨k1, k2, k3⟩ := vx_keep h0 e1 hS hA hf hL hF
    obtain ⟨t2, a1, b1⟩ := kk r u t T'.heap (locs ++ L) e1.symm (by rw [← e2]; exact X'.warmed.alike) hp hb k1 k2 k3 T' rfl X'
    exact ⟨t2, st t2 a1, b1⟩
  · obtain ⟨k1, k2, k3⟩ := vx_keep h0 e1 hS hAX hf hL hF
    obtain ⟨t2, a1, b1⟩ := kx E ce q u t T'.heap (locs ++ L) e1.symm (by rw [← e2]; exact X'.warmed.alike) hp hb k1 k2 k3 (by rw [e1]; exact hce) hcv hcl T' rfl X'
    exact ⟨t2, st.trans a1, b1⟩
theorem vx_callv {S SX : Type} {post : S → Prop} {px : SX → Prop} {B : S → State → Prop} {BX : String → SX → State → Prop} {AX : Nat → Prop} (hr : vx_Run p l e R s m args below meth c H locs cells slots mc ms (F0 m pc ls st0) rest (va_Qv post B A1 a) (vx_X px BX AX) free) (hS : va_S A0 H0 H locs) (hA : ∀ q, q < H.size → A1 q → A0 q) (hf : ∀ q, free q → A0 q) (hAX : ∀ q, q < H.size → AX q → A0 q)
    (kx : ∀ (E : String) (ce : Cell) (q9 : Addr) (u : SX) (t : State) (H1 : Heap) (locs1 : List Loc), t.heap = H1 → s.vm.Alike t.vm → px u → BX E u t → H.size ≤ H1.size → (∀ q : Nat, q < H.size → ¬ AX q → H1[q]? = H[q]?) → va_S A0 H0 H1 locs1 → H1[q9]? = some ce → ce.vm = .none → s.vm.findClass E = some ce.cls → vx_W p l e R s m args below meth c H1 locs1 (cells + mc) (slots + ms) Q (F0 m pc ls rest) q9)
    (kk : ∀ (u : S) (t : State) (H1 : Heap) (locs1 : List Loc), t.heap = H1 → s.vm.Alike t.vm → post u → B u t → H.size ≤ H1.size → (∀ q : Nat, q < H.size → ¬ A1 q → H1[q]? = H[q]?) → va_S A0 H0 H1 locs1 → W p l e R s m args below meth c H1 locs1 (cells + mc) (slots + ms) Q (F0 m (pc + 3) ls (rest))) : W p l e R s m args below meth c H locs cells slots Q (F0 m pc ls st0) := by
  intro T hT X
  rcases hr T hT X with ⟨v, st₀, t, T', L, h0, X', hL, e1, e2, ⟨⟨u, hv, hp, hb⟩, hF⟩, st⟩ | ⟨q, st₀, t, T', L, E, ce, h0, X', hL, e1, e2, ⟨u, hp, hb, hF⟩, hce, hcv, hcl, st⟩
  · cases hv
    obtain ⟨k1, k2, k3⟩ := vx_keep h0 e1 hS hA hf hL hF
    obtain ⟨t2, a1, b1⟩ := kk u t T'.heap (locs ++ L) e1.symm (by rw [← e2]; exact X'.warmed.alike) hp hb k1 k2 k3 T' rfl X'
    exact ⟨t2, st t2 a1, b1⟩
  · obtain ⟨k1, k2, k3⟩ := vx_keep h0 e1 hS hAX hf hL hF
    obtain ⟨t2, a1, b1⟩ := kx E ce q u t T'.heap (locs ++ L) e1.symm (by rw [← e2]; exact X'.warmed.alike) hp hb k1 k2 k3 (by rw [e1]; exact hce) hcv hcl T' rfl X'
    exact ⟨t2, st.trans a1, b1⟩
/-- caught by the row x of this method's table; the rows ahead don't take it -/
theorem vx_catch {own name : String} {E : String} {ce : Cell} {q : Addr} (hown : s.vm.findClass own = some m.cls) (pre : List ExceptionTableEntry) (x : ExceptionTableEntry) (suf : List ExceptionTableEntry) (hsplit : c.exceptionTable.toList = pre ++ x :: suf)
    (hpass : ∀ z ∈ pre, covers z pc = false ∨ (z.catchType ≠ 0 ∧ ∃ nm : String, (Cond.classLink own z.catchType nm).before args s = true ∧ va_Nc E nm s)) (hx : covers x pc = true) (h0 : x.catchType ≠ 0)
    (hlink : (Cond.classLink own x.catchType name).before args s = true) (hcast : (Cond.castable E name).before args s = true) (hcell : H[q]? = some ce) (hv : ce.vm = .none) (hcl : s.vm.findClass E = some ce.cls)
    (kk : W p l e R s m args below meth c H locs cells slots Q (F0 m x.handlerPc ls [.ref q])) : vx_W p l e R s m args below meth c H locs cells slots Q (F0 m pc ls rest) q := by
  intro T hT X
  have hpl : e.platform.magicAccessors = ({} : Platform).magicAccessors := by rw [X.admits.platform]
  obtain ⟨c3, c4, hc3, hc4, hasg⟩ := Cond.castable_spec hcast
  cases Option.some.inj (hc3.symm.trans hcl)
  obtain ⟨c5, hc5, hcl5⟩ := Cond.classLink_spec hown hlink e.platform hpl
  cases Option.some.inj (hc4.symm.trans hc5)
  obtain ⟨vm', X', st⟩ := X.thenCaughtThrough q (g := F0 m pc ls rest) rfl (Steps.refl _) (by rw [hT]; exact hcell) (by rw [hv]; rfl) (by obtain ⟨k9, h9, -⟩ := Vm.findClass_spec hcl; exact ⟨k9, h9⟩) pre x suf hsplit
    (fun z hz => by
      rcases hpass z hz with h | ⟨hz0, nm, hl1, hn1⟩
      · exact Or.inl h
      · obtain ⟨c6, hc6, hcl6⟩ := Cond.classLink_spec hown hl1 e.platform hpl
        obtain ⟨a8, b8, h1, h2, h3⟩ := hn1
        cases Option.some.inj (h1.symm.trans hcl)
        cases Option.some.inj (h2.symm.trans hc6)
        exact Or.inr ⟨hz0, _, hcl6, h3⟩) hx (Or.inr ⟨h0, c4, hcl5, hasg⟩)
  obtain ⟨t, a1, b1⟩ := kk (T.setVm vm') hT X'
  exact ⟨t, st.trans a1, b1⟩
end Rows
section Ends
variable {p : Program} {l : Launch} {e : Env} {R : Room} {s : State} {m : MethodId} {args : Array Value} {below : List Frame} {meth : Method} {c : Code} {H : Heap} {locs : List Loc} {cells slots : Nat} {Q : State → Prop}
variable {mc ms : Nat} {free : Addr → Prop} {A0 A1 : Nat → Prop} {H0 : Heap} {a : Array Value} {ls : Array Slot} {st0 rest : List Value}
variable {Qc : Array Value → State → Outcome → State → Prop} {XC : String → State → State → Prop}
/-- what a body that may throw owes at its end -/
def vx_MQ (below : List Frame) (Qc : Array Value → State → Outcome → State → Prop) (XC : String → State → State → Prop) (a : Array Value) (s : State) (mc ms : Nat) (free : Addr → Prop) : State → Prop := fun t =>
  ∃ o, t.status = .running ∧ Ended t below o ∧ vx_Q Qc XC mc ms free a s o t
theorem vx_ret {g : JFrame} {mc ms : Nat} (k : W p l e R s m args below meth c H locs cells slots (MQ below Qc args s mc ms free) g) : W p l e R s m args below meth c H locs cells slots (vx_MQ below Qc XC args s mc ms free) g := by
  intro T hT X
  obtain ⟨t, a1, o, b1, b2, b3, b4⟩ := k T hT X
  exact ⟨t, a1, o, b1, b2, Or.inl ⟨b3, b4⟩⟩
/-- not caught here: it goes on to the caller -/
theorem vx_widen {g : JFrame} {q : Addr} {k n : Nat} (h1 : cells ≤ k) (h2 : slots ≤ n) (kk : vx_W p l e R s m args below meth c H locs k n Q g q) : vx_W p l e R s m args below meth c H locs cells slots Q g q := fun T hT X => kk T hT (stand_widen X h1 h2)
theorem vx_out {pc : Nat} {E : String} {ce : Cell} {q : Addr} {mc ms : Nat} (hout : ∀ x ∈ c.exceptionTable.toList, covers x pc = false) (hlocks : meth.locks = false) (hcell : H[q]? = some ce) (hv : ce.vm = .none) (hcl : s.vm.findClass E = some ce.cls)
    (hx : ∀ t : State, t.heap = H → s.vm.Alike t.vm → XC E s t) (hf : ∀ z ∈ locs, free z.base) (hc : cells ≤ mc) (hs : slots ≤ ms) :
    vx_W p l e R s m args below meth c H locs cells slots (vx_MQ below Qc XC args s mc ms free) (F0 m pc ls rest) q := by
  intro T hT X
  obtain ⟨st1, hrun, hend, hW, hsm⟩ := X.leaveThrown q (g := F0 m pc ls rest) rfl rfl rfl hout hlocks
  have hcell9 : (T.setFrames (.throwing q :: below)).heap[q]? = some ce := by
    show T.heap[q]? = some ce
    rw [hT]; exact hcell
  exact ⟨_, st1, .threw q, hrun, hend, Or.inr ⟨q, rfl, E, ce, locs, hx _ hT hW.alike, hcell9, hv, hcl, hW, hsm.mono hc hs, hf⟩⟩
theorem vx_frame {U : State} {k n : Nat} (h : s.sameButNew ({ U with vm := s.vm } : State) locs k n) : s.heap.size ≤ U.heap.size ∧ ∀ q : Nat, q < s.heap.size → (∀ z ∈ locs, z.base ≠ q) → U.heap[q]? = s.heap[q]? := by
  obtain ⟨-, h2, -, -, -, h6⟩ := h
  refine ⟨h2, fun q hq hz => ?_⟩
  obtain ⟨c9, e1, e2, e3, e4⟩ := h6 q _ (Array.getElem?_eq_getElem hq)
  have hs : c9.slots = (s.heap[q]).slots := Array.ext_getElem? fun i => e4 i fun hm => hz _ hm rfl
  have h9 : c9 = s.heap[q] := by
    rw [hs] at e2
    exact e2
  have e5 : U.heap[q]? = some c9 := e1
  rw [e5, h9, Array.getElem?_eq_getElem hq]
/-- the words of a throw but the four that speak of the heap -/
def vx_no (w : Cond) : Bool := decide (w ≠ .isRef (.static Bundle.tN "UNASSIGNED_STACK" Bundle.steD)) && decide (w ≠ .isRef (.static Bundle.tN "SUPPRESSED_SENTINEL" Bundle.listD)) && decide (w ≠ .laysStatic Bundle.tN "UNASSIGNED_STACK" Bundle.steD) && decide (w ≠ .laysStatic Bundle.tN "SUPPRESSED_SENTINEL" Bundle.listD)
def vx_at0 (own : String) (ic : Nat) (X : String) (names : List String) : List Cond := (Bundle.ownAtoms0 own ic X names).filter vx_no
def vx_atS (own : String) (ic : Nat) (X : String) (names : List String) : List Cond := (Bundle.ownAtoms own ic X names).filter vx_no
/-- a word that the tables alone decide, or a good one -/
def vx_ot (w : Cond) : Bool := w.onTables || goodWord w
theorem vx_ot_at {args a' : Array Value} {s U : State} {w : Cond} (hW : s.WarmedH U.vm) (hvm : s.vm = U.vm) (hg : vx_ot w = true) (h : w.before args s = true) : w.before a' U = true := by
  simp only [vx_ot, Bool.or_eq_true] at hg
  rcases hg with hg | hg
  · exact va_tabs hg hvm h
  · exact word_at hW (good_of_word hg) h
/-- a list's words: the good ones out of the method's own list, the others by premises of their own -/
theorem vx_hat {args : Array Value} {s : State} {L B : List Cond} (h1 : ∀ w ∈ L.filter goodWord, w.before args s = true) (h2 : ∀ w ∈ L.filter (fun w => !goodWord w), w ∈ B) (h3 : ∀ w ∈ B, w.before args s = true) : ∀ w ∈ L, w.before args s = true := by
  intro w hw
  by_cases g : goodWord w = true
  · exact h1 w (List.mem_filter.mpr ⟨hw, g⟩)
  · refine h3 w (h2 w (List.mem_filter.mpr ⟨hw, ?_⟩))
    show (!goodWord w) = true
    cases hgw : goodWord w
    · rfl
    · exact absurd hgw g
theorem vx_c {args : Array Value} {s : State} {w : Cond} {B : List Cond} (h : w.before args s = true) (t : ∀ w ∈ B, w.before args s = true) : ∀ w' ∈ w :: B, w'.before args s = true := fun w' h' => (List.mem_cons.mp h').elim (fun e => by rw [e]; exact h) (t w')
theorem vx_n {args : Array Value} {s : State} : ∀ w ∈ ([] : List Cond), w.before args s = true := fun _ h => nomatch h
theorem vx_own {args : Array Value} {s : State} {L : List Cond} (h1 : ∀ w ∈ L.filter vx_no, w.before args s = true)
    (hU : (Cond.isRef (.static Bundle.tN "UNASSIGNED_STACK" Bundle.steD)).before args s = true) (hN : (Cond.isRef (.static Bundle.tN "SUPPRESSED_SENTINEL" Bundle.listD)).before args s = true)
    (lU : (Cond.laysStatic Bundle.tN "UNASSIGNED_STACK" Bundle.steD).before args s = true) (lN : (Cond.laysStatic Bundle.tN "SUPPRESSED_SENTINEL" Bundle.listD).before args s = true) : ∀ w ∈ L, w.before args s = true := by
  intro w hw
  by_cases e1 : w = .isRef (.static Bundle.tN "UNASSIGNED_STACK" Bundle.steD)
  · rw [e1]; exact hU
  · by_cases e2 : w = .isRef (.static Bundle.tN "SUPPRESSED_SENTINEL" Bundle.listD)
    · rw [e2]; exact hN
    · by_cases e3 : w = .laysStatic Bundle.tN "UNASSIGNED_STACK" Bundle.steD
      · rw [e3]; exact lU
      · by_cases e4 : w = .laysStatic Bundle.tN "SUPPRESSED_SENTINEL" Bundle.listD
        · rw [e4]; exact lN
        · exact h1 w (List.mem_filter.mpr ⟨hw, by unfold vx_no; rw [decide_eq_true e1, decide_eq_true e2, decide_eq_true e3, decide_eq_true e4]; rfl⟩)
/-- where a static field lies, its class's statics cell in H -/
def vx_L (C n d : String) (A : Nat → Prop) (U : State) (H : Heap) : Prop := ∃ (c : ClassId) (k : Class) (i : Nat) (f : Field) (a : Nat) (cell : Cell), U.vm.findClass C = some c ∧ U.fieldFound? C n d = some (c, k, i, f) ∧ f.isStatic = true ∧ k.statics = some a ∧ H[a]? = some cell ∧ cell.vm.isStatics = true ∧ cell.cls = c ∧ f.slot < cell.slots.size ∧ k.staticTypes[f.slot]? = some f.type ∧ ¬ A a
theorem vx_L.moved {C n d : String} {A : Nat → Prop} {u U : State} {H : Heap} (hvm : u.vm.Alike U.vm) (h : vx_L C n d A u H) : vx_L C n d A U H := by
  obtain ⟨c, k, i, f, a, cell, h1, h2, h3, h4, h5, h6, h7, h8, h9, h10⟩ := h
  obtain ⟨k', hi', he⟩ := State.fieldFound?_setVm hvm h2
  exact ⟨c, k', i, f, a, cell, by rw [hvm.findClass]; exact h1, hi', h3, by rw [he]; exact h4, h5, h6, h7, h8, by rw [he]; exact h9, h10⟩
theorem vx_L.kept {C n d : String} {A : Nat → Prop} {U : State} {H H1 : Heap} (h : vx_L C n d A U H) (hq : ∀ a : Nat, a < H.size → ¬ A a → H1[a]? = H[a]?) : vx_L C n d A U H1 := by
  obtain ⟨c, k, i, f, a, cell, h1, h2, h3, h4, h5, h6, h7, h8, h9, h10⟩ := h
  exact ⟨c, k, i, f, a, cell, h1, h2, h3, h4, by rw [hq a (Array.getElem?_eq_some_iff.mp h5).1 h10]; exact h5, h6, h7, h8, h9, h10⟩
theorem vx_L.narrow {C n d : String} {A B : Nat → Prop} {U : State} {H : Heap} (h : vx_L C n d A U H) (hAB : ∀ q, B q → A q) : vx_L C n d B U H := by
  obtain ⟨c, k, i, f, a, cell, h1, h2, h3, h4, h5, h6, h7, h8, h9, h10⟩ := h
  exact ⟨c, k, i, f, a, cell, h1, h2, h3, h4, h5, h6, h7, h8, h9, fun z => h10 (hAB _ z)⟩
theorem vx_L.word {C n d : String} {A : Nat → Prop} {s : State} {args : Array Value} (h : vx_L C n d A s s.heap) : (Cond.laysStatic C n d).before args s = true := by
  obtain ⟨c, k, i, f, a, cell, h1, h2, h3, h4, h5, h6, h7, h8, h9, -⟩ := h
  show (Cond.laysStatic C n d).holds args s none s [] = true
  exact Cond.laysStatic_of h1 h2 h3 h4 h5 h6 h7 h8 h9
/-- .. and what it holds: null or some reference -/
def vx_Zq (C n d : String) (A : Nat → Prop) (U : State) (H : Heap) : Prop := va_Zq C n d A U H ∧ vx_L C n d A U H
theorem vx_Zq.moved {C n d : String} {A : Nat → Prop} {u U : State} {H : Heap} (hvm : u.vm.Alike U.vm) (h : vx_Zq C n d A u H) : vx_Zq C n d A U H := ⟨va_Zq.moved hvm h.1, vx_L.moved hvm h.2⟩
theorem vx_Zq.kept {C n d : String} {A : Nat → Prop} {U : State} {H H1 : Heap} (h : vx_Zq C n d A U H) (hq : ∀ a : Nat, a < H.size → ¬ A a → H1[a]? = H[a]?) : vx_Zq C n d A U H1 := ⟨va_Zq.kept h.1 hq, vx_L.kept h.2 hq⟩
theorem vx_Zq.narrow {C n d : String} {A B : Nat → Prop} {U : State} {H : Heap} (h : vx_Zq C n d A U H) (hAB : ∀ q, B q → A q) : vx_Zq C n d B U H := ⟨va_Zq.narrow h.1 hAB, vx_L.narrow h.2 hAB⟩
theorem vx_Zqof {args : Array Value} {s : State} {C n d : String} {A : Nat → Prop} (hl : (Cond.laysStatic C n d).before args s = true) (hini : (Cond.initialized C).before args s = true) (h : (Cond.isRef (.static C n d)).before args s = true) (hA : ∀ a : Nat, a < s.heap.size → ¬ A a) : vx_Zq C n d A s s.heap := by
  refine ⟨va_Zqof hl hini h hA, ?_⟩
  obtain ⟨c, k, i, f, a, cell, h1, h2, h3, h4, h5, h6, h7, h8, h9⟩ := Cond.laysStatic_spec hl
  exact ⟨c, k, i, f, a, cell, h1, h2, h3, h4, h5, h6, h7, h8, h9, hA a (Array.getElem?_eq_some_iff.mp h5).1⟩
theorem vx_isRef {C n d : String} {v : Value} {A : Nat → Prop} {s : State} {args : Array Value} (h : va_Z C n d v A s s.heap) (hv : v.isRef = true) : (Cond.isRef (.static C n d)).before args s = true := by
  obtain ⟨cf, kf, fi, f, a, cell, h1, h2, h3, h4, h5, h6, h7, -⟩ := h
  have he : (Term.static C n d).eval args s none [] s = some v := by
    simp [Term.eval, State.fieldNamed?, h1, h2, h4, h5, h6, h7]
  simp only [Cond.before, Cond.holds, Cond.value, he]
  cases v <;> simp_all [Value.isRef]
theorem vx_isRefq {C n d : String} {A : Nat → Prop} {s : State} {args : Array Value} (h : va_Zq C n d A s s.heap) : (Cond.isRef (.static C n d)).before args s = true := by
  rcases h with h | ⟨t, h⟩
  · exact vx_isRef h rfl
  · exact vx_isRef h rfl
/-- the same frame, seen from here: as if the method were called anew in this heap -/
theorem vx_rebase {T : State} (X : Stand p l e R s m args below meth c T locs cells slots) {R' : Room} (hf : R'.frames ≤ R.frames) (hl : R'.locals ≤ R.locals) (hc : cells + R'.cells ≤ R.cells) (hs : slots + R'.slots ≤ R.slots) :
    Stand p l e R' ((T.setVm s.vm).setFrames (.invoking m args :: below)) m args below meth c T [] 0 0 := by
  have htop : (T.setVm s.vm).topJava?.isSome := X.here.top
  have hF : ((T.setVm s.vm).setFrames (.invoking m args :: below)).frames = .invoking m args :: below := State.frames_setFrames _ (State.cur_lt_of_top htop)
  obtain ⟨g₀, hg0⟩ := Option.isSome_iff_exists.mp htop
  obtain ⟨r, hr⟩ := State.topJava?_eq_some.mp hg0
  have hl9 : e.platform.stackLimits (T.setVm s.vm).me = e.platform.stackLimits s.me := X.limits
  have hb9 : (T.setVm s.vm).me.stackBytes = s.me.stackBytes := X.bytes
  refine ⟨X.admits, X.cas, X.clock, hF, ?_, X.hears, X.method, X.code, X.here, X.tail, X.warmed, ?_, ?_, ?_⟩
  · have h := X.room
    have hU : ((T.setVm s.vm).setFrames (.invoking m args :: below)).localsInUse = s.localsInUse := by
      rw [State.localsInUse_invoking hF (meth := meth) (c := c) X.method X.code, State.localsInUse_invoking X.frames X.method X.code]
    simp only [State.hasRoom, Bool.and_eq_true, decide_eq_true_eq] at h ⊢
    obtain ⟨⟨⟨⟨h1, h2, h3, h4, h5, h6⟩, h7⟩, h8⟩, h9⟩ := h
    rw [X.frames, List.length_cons] at h2 h3
    have q1 := X.heapSize
    have q2 := X.used
    simp only [hF, hU, List.length_cons, State.stackLimits_setFrames, State.stackBytes_setFrames, hl9, hb9]
    refine ⟨⟨⟨⟨by omega, by omega, by omega, by omega, by omega, h6⟩, ?_⟩, ?_⟩, X.book⟩
    · show T.heap.size + R'.cells ≤ e.platform.maxCells
      omega
    · show T.slotsUsed + R'.slots ≤ e.platform.maxSlots
      omega
  · rw [State.stackLimits_setFrames]; rfl
  · rw [State.stackBytes_setFrames]; rfl
  · refine ⟨?_, Nat.le_refl _, Nat.le_refl _, ?_, ?_, fun a c9 h9 => ⟨c9, h9, rfl, rfl, fun _ _ => rfl⟩⟩
    · obtain ⟨t, ht, -⟩ := State.frames_cons hr
      show T.setVm s.vm = { ((T.setVm s.vm).setFrames (.invoking m args :: below)).setFrames (T.setVm s.vm).frames with heap := T.heap, slotsUsed := T.slotsUsed }
      rw [State.setFrames_setFrames, State.setFrames_self ht]
      rfl
    · show T.slotsUsed = T.slotsUsed + ((T.heap.toList.drop T.heap.size).map (·.slots.size)).sum
      rw [List.drop_eq_nil_of_le (Nat.le_of_eq Array.length_toList)]
      rfl
    · show ((T.heap.toList.drop T.heap.size).map (·.slots.size)).sum ≤ 0
      rw [List.drop_eq_nil_of_le (Nat.le_of_eq Array.length_toList)]
      exact Nat.le_refl _
/-- 'throw new E()': new; dup; invokespecial; athrow -/
theorem vx_throw0 {cc : ByteArray} {pc : Nat} (hexec : p.tables.exec = Jvm.exec) (hb : c.code = cc) (hl : l.stackTraces = false) {own cls : String} {names : List String} {ik ic mc ms : Nat} {A : Nat → Prop}
    (hown : s.vm.findClass own = some m.cls) (hcls : Bundle.fit cls = true) (hnames : ∀ n ∈ names, Bundle.fit n = true)
    (hk : (Cond.classLink own ik cls).before args s = true) (hini : (Cond.initialized cls).before args s = true) (hat : ∀ w ∈ vx_at0 own ic cls names, w.before args s = true)
    (hgood : ∀ w ∈ Cond.classLink own ik cls :: Cond.initialized cls :: vx_at0 own ic cls names, vx_ot w = true)
    (hU : vx_Zq Bundle.tN "UNASSIGNED_STACK" Bundle.steD A s s.heap) (hN : vx_Zq Bundle.tN "SUPPRESSED_SENTINEL" Bundle.listD A s s.heap) (hS : va_S A s.heap H locs) (hsize : ls.size = c.maxLocals)
    (d0 : decode cc pc = .ok (.new ik, 3)) (d3 : decode cc (pc + 3) = .ok (.dup, 1)) (d4 : decode cc (pc + 4) = .ok (.invokespecial ic, 3)) (d7 : decode cc (pc + 7) = .ok (.athrow, 1))
    (hout : ∀ x ∈ c.exceptionTable.toList, covers x (pc + 7) = false)
    (hRframes : names.length + 3 < R.frames) (hRlocals : (rest.map fun v => v.category).sum + (13 * (names.length + 1) + 42) ≤ R.locals) (hRcells : cells + 1 ≤ R.cells) (hRslots : slots + 6 ≤ R.slots) (hlocks : meth.locks = false)
    (hx : ∀ t : State, s.vm.Alike t.vm → H.size ≤ t.heap.size → (∀ q : Nat, q < H.size → t.heap[q]? = H[q]?) → XC cls s t)
    (hf : ∀ z ∈ locs, free z.base) (hc : cells + 1 ≤ mc) (hs : slots + 6 ≤ ms) :
    W p l e R s m args below meth c H locs cells slots (vx_MQ below Qc XC args s mc ms free) (F0 m pc ls rest) := by
  intro T hT X
  have htr : e.platform.stackTraces = false := (show e.platform.stackTraces = l.stackTraces by rw [X.admits.platform]).trans hl
  have Y := vx_rebase X (R' := { frames := R.frames, locals := R.locals, cells := 1, slots := 6 }) (Nat.le_refl _) (Nat.le_refl _) hRcells hRslots
  obtain ⟨s', hA⟩ : ∃ z, z = (T.setVm s.vm).setFrames (.invoking m args :: below) := ⟨_, rfl⟩
  rw [← hA] at Y
  have hvm : s'.vm = s.vm := by rw [hA]; rfl
  have hhp : s'.heap = H := by rw [hA]; exact hT
  have hW0 : s.WarmedH s'.vm := by rw [hvm]; exact State.WarmedH.refl s
  have hat' : ∀ w ∈ vx_at0 own ic cls names, w.before args s' = true := fun w hw => vx_ot_at hW0 hvm.symm (hgood w (List.mem_cons_of_mem _ (List.mem_cons_of_mem _ hw))) (hat w hw)
  have hk' : (Cond.classLink own ik cls).before args s' = true := vx_ot_at hW0 hvm.symm (hgood _ List.mem_cons_self) hk
  have hini' : (Cond.initialized cls).before args s' = true := vx_ot_at hW0 hvm.symm (hgood _ (List.mem_cons_of_mem _ List.mem_cons_self)) hini
  have hU' : vx_Zq Bundle.tN "UNASSIGNED_STACK" Bundle.steD A s' s'.heap := by rw [hhp]; exact vx_Zq.moved hW0.alike (hU.kept hS.2.1)
  have hN' : vx_Zq Bundle.tN "SUPPRESSED_SENTINEL" Bundle.listD A s' s'.heap := by rw [hhp]; exact vx_Zq.moved hW0.alike (hN.kept hS.2.1)
  have h : ∀ w ∈ Bundle.ownAtoms0 own ic cls names, w.before args s' = true := vx_own hat' (vx_isRefq hU'.1) (vx_isRefq hN'.1) hU'.2.word hN'.2.word
  have hown' : s'.vm.findClass own = some m.cls := by rw [hvm]; exact hown
  have hins : (Cond.instantiable cls 6).before args s' = true := h _ (by simp [Bundle.ownAtoms0])
  obtain ⟨vm₁, cX, kX, hfX, hkX, -, -, X₁, st1⟩ := Y.newCold hexec (own := own) (C := cls) (index := ik) (n := 6) hown' hk' hins hini'
    (g := F0 m pc ls rest) rfl (by rw [hb]; exact d0) (Nat.le_refl _) (Nat.le_refl _)
  generalize hT1 : (T.setVm vm₁).pushCell { cls := cX, slots := kX.instanceTypes.map defaultValue, vm := .none } = T1 at X₁ st1
  have hcat : (Value.ref T.heap.size).category = 1 := rfl
  have hcellA : T1.heap[T.heap.size]? = some (freshCell cX kX) := by rw [← hT1]; exact State.heap_pushCell_size _ _
  have d3' : decode c.code (pc + 3) = .ok (.dup, 1) := by rw [hb]; exact d3
  obtain ⟨U, hsteps, hrun, hend, hW, hsame, ce, hce, hO⟩ := X₁.ctorThrow0 hexec htr (own := own) (cls := cls) (names := names) (ic := ic) hown' hcls hnames h (fun x hx => nomatch hx) hfX hkX hcellA (by rw [hhp, hT]; exact Nat.le_refl _)
    (g := { method := m, pc := pc + 4, locals := ls, stack := .ref T.heap.size :: .ref T.heap.size :: rest, locked := none }) rfl hsize rfl rfl (rest := rest) rfl
    (by rw [hb]; exact d4) (by rw [hb]; exact d7) hout hRframes (by simp only [List.map_cons, List.sum_cons, hcat]; omega) hlocks
  obtain ⟨f1, f2⟩ := vx_frame hsame
  rw [hhp] at f1 f2
  have hWs : s.WarmedH U.vm := State.WarmedH.trans hW0 hW
  have hcl : s.vm.findClass cls = some ce.cls := by
    have h9 := hO.cls
    rw [hvm] at h9
    exact h9
  have hall : s.sameButNew ({ U with vm := s.vm } : State) locs mc ms := by
    subst hA
    obtain ⟨e1, e2⟩ := hsame
    rw [State.setFrames_setFrames] at e1
    have h2 : (T.setVm s.vm).sameButNew ({ U with vm := s.vm } : State) [] (0 + 1) (0 + 6) := ⟨e1, e2⟩
    have h3 := X.same.trans h2
    rw [List.append_nil] at h3
    exact h3.mono hc hs
  refine ⟨U, ?_, .threw T.heap.size, hrun, hend, Or.inr ⟨T.heap.size, rfl, cls, ce, locs, hx U hWs.alike f1 (fun q hq => f2 q hq (fun z hz => nomatch hz)), hce, hO.vm, hcl, hWs, hall, hf⟩⟩
  refine st1 _ ?_
  show Steps p.tables e below (T1.setTop { method := m, pc := pc + 3, locals := ls, stack := .ref T.heap.size :: rest, locked := none }) _
  jvm_step X₁.here [X₁.here.top, hexec, d3', Value.category]
  exact hsteps
/-- 'throw new E("text")': new; dup; ldc; invokespecial; athrow -/
theorem vx_throwS {cc : ByteArray} {pc : Nat} (hexec : p.tables.exec = Jvm.exec) (hb : c.code = cc) (hl : l.stackTraces = false) {own cls text : String} {names : List String} {ik is ic mc ms sa : Nat} {A : Nat → Prop}
    (hown : s.vm.findClass own = some m.cls) (hcls : Bundle.fit cls = true) (hnames : ∀ n ∈ names, Bundle.fit n = true)
    (hk : (Cond.classLink own ik cls).before args s = true) (hini : (Cond.initialized cls).before args s = true) (hstr : vk_R own is text sa s) (hat : ∀ w ∈ vx_atS own ic cls names, w.before args s = true)
    (hgood : ∀ w ∈ Cond.classLink own ik cls :: Cond.initialized cls :: vx_atS own ic cls names, vx_ot w = true)
    (hU : vx_Zq Bundle.tN "UNASSIGNED_STACK" Bundle.steD A s s.heap) (hN : vx_Zq Bundle.tN "SUPPRESSED_SENTINEL" Bundle.listD A s s.heap) (hS : va_S A s.heap H locs) (hsize : ls.size = c.maxLocals)
    (d0 : decode cc pc = .ok (.new ik, 3)) (d3 : decode cc (pc + 3) = .ok (.dup, 1)) (d4 : decode cc (pc + 4) = .ok (.ldc is, 2)) (d6 : decode cc (pc + 6) = .ok (.invokespecial ic, 3)) (d9 : decode cc (pc + 9) = .ok (.athrow, 1))
    (hout : ∀ x ∈ c.exceptionTable.toList, covers x (pc + 9) = false)
    (hRframes : names.length + 3 < R.frames) (hRlocals : (rest.map fun v => v.category).sum + (13 * (names.length + 1) + 43) ≤ R.locals) (hRcells : cells + 1 ≤ R.cells) (hRslots : slots + 6 ≤ R.slots) (hlocks : meth.locks = false)
    (hx : ∀ t : State, s.vm.Alike t.vm → H.size ≤ t.heap.size → (∀ q : Nat, q < H.size → t.heap[q]? = H[q]?) → XC cls s t)
    (hf : ∀ z ∈ locs, free z.base) (hc : cells + 1 ≤ mc) (hs : slots + 6 ≤ ms) :
    W p l e R s m args below meth c H locs cells slots (vx_MQ below Qc XC args s mc ms free) (F0 m pc ls rest) := by
  intro T hT X
  have htr : e.platform.stackTraces = false := (show e.platform.stackTraces = l.stackTraces by rw [X.admits.platform]).trans hl
  have Y := vx_rebase X (R' := { frames := R.frames, locals := R.locals, cells := 1, slots := 6 }) (Nat.le_refl _) (Nat.le_refl _) hRcells hRslots
  obtain ⟨s', hA⟩ : ∃ z, z = (T.setVm s.vm).setFrames (.invoking m args :: below) := ⟨_, rfl⟩
  rw [← hA] at Y
  have hvm : s'.vm = s.vm := by rw [hA]; rfl
  have hhp : s'.heap = H := by rw [hA]; exact hT
  have hW0 : s.WarmedH s'.vm := by rw [hvm]; exact State.WarmedH.refl s
  have hat' : ∀ w ∈ vx_atS own ic cls names, w.before args s' = true := fun w hw => vx_ot_at hW0 hvm.symm (hgood w (List.mem_cons_of_mem _ (List.mem_cons_of_mem _ hw))) (hat w hw)
  have hk' : (Cond.classLink own ik cls).before args s' = true := vx_ot_at hW0 hvm.symm (hgood _ List.mem_cons_self) hk
  have hini' : (Cond.initialized cls).before args s' = true := vx_ot_at hW0 hvm.symm (hgood _ (List.mem_cons_of_mem _ List.mem_cons_self)) hini
  have hU' : vx_Zq Bundle.tN "UNASSIGNED_STACK" Bundle.steD A s' s'.heap := by rw [hhp]; exact vx_Zq.moved hW0.alike (hU.kept hS.2.1)
  have hN' : vx_Zq Bundle.tN "SUPPRESSED_SENTINEL" Bundle.listD A s' s'.heap := by rw [hhp]; exact vx_Zq.moved hW0.alike (hN.kept hS.2.1)
  have h : ∀ w ∈ Bundle.ownAtoms own ic cls names, w.before args s' = true := vx_own hat' (vx_isRefq hU'.1) (vx_isRefq hN'.1) hU'.2.word hN'.2.word
  have hown' : s'.vm.findClass own = some m.cls := by rw [hvm]; exact hown
  have hins : (Cond.instantiable cls 6).before args s' = true := h _ (by simp [Bundle.ownAtoms])
  obtain ⟨vm₁, cX, kX, hfX, hkX, -, -, X₁, st1⟩ := Y.newCold hexec (own := own) (C := cls) (index := ik) (n := 6) hown' hk' hins hini'
    (g := F0 m pc ls rest) rfl (by rw [hb]; exact d0) (Nat.le_refl _) (Nat.le_refl _)
  generalize hT1 : (T.setVm vm₁).pushCell { cls := cX, slots := kX.instanceTypes.map defaultValue, vm := .none } = T1 at X₁ st1
  have hcat : (Value.ref T.heap.size).category = 1 := rfl
  have hcellA : T1.heap[T.heap.size]? = some (freshCell cX kX) := by rw [← hT1]; exact State.heap_pushCell_size _ _
  have d3' : decode c.code (pc + 3) = .ok (.dup, 1) := by rw [hb]; exact d3
  have d4' : decode c.code (pc + 4) = .ok (.ldc is, 2) := by rw [hb]; exact d4
  have hstr' : vk_R own is text sa s' := vk_R.warm hW0 hstr
  obtain ⟨U, hsteps, hrun, hend, hW, hsame, ce, hce, hO⟩ := X₁.ctorThrowS hexec htr (own := own) (cls := cls) (names := names) (ic := ic) hown' hcls hnames h (fun x hx => nomatch hx) hfX hkX hcellA (by rw [hhp, hT]; exact Nat.le_refl _) (msg := .ref sa) rfl
    (g := { method := m, pc := pc + 6, locals := ls, stack := .ref sa :: .ref T.heap.size :: .ref T.heap.size :: rest, locked := none }) rfl hsize rfl rfl (rest := rest) rfl
    (by rw [hb]; exact d6) (by rw [hb]; exact d9) hout hRframes (by simp only [List.map_cons, List.sum_cons, hcat]; omega) hlocks
  obtain ⟨f1, f2⟩ := vx_frame hsame
  rw [hhp] at f1 f2
  have hWs : s.WarmedH U.vm := State.WarmedH.trans hW0 hW
  have hcl : s.vm.findClass cls = some ce.cls := by
    have h9 := hO.cls
    rw [hvm] at h9
    exact h9
  have hall : s.sameButNew ({ U with vm := s.vm } : State) locs mc ms := by
    subst hA
    obtain ⟨e1, e2⟩ := hsame
    rw [State.setFrames_setFrames] at e1
    have h2 : (T.setVm s.vm).sameButNew ({ U with vm := s.vm } : State) [] (0 + 1) (0 + 6) := ⟨e1, e2⟩
    have h3 := X.same.trans h2
    rw [List.append_nil] at h3
    exact h3.mono hc hs
  refine ⟨U, ?_, .threw T.heap.size, hrun, hend, Or.inr ⟨T.heap.size, rfl, cls, ce, locs, hx U hWs.alike f1 (fun q hq => f2 q hq (fun z hz => nomatch hz)), hce, hO.vm, hcl, hWs, hall, hf⟩⟩
  refine st1 _ ?_
  show Steps p.tables e below (T1.setTop { method := m, pc := pc + 3, locals := ls, stack := .ref T.heap.size :: rest, locked := none }) _
  jvm_step X₁.here [X₁.here.top, hexec, d3', Value.category]
  exact X₁.ldcString hexec (own := own) (text := text) (index := is) (a := sa) hown' hstr'.1 hstr'.2
    (g := { method := m, pc := pc + 4, locals := ls, stack := .ref T.heap.size :: .ref T.heap.size :: rest, locked := none }) rfl d4' _ hsteps
/-- 'throw new E("text")', the text by a wide index -/
theorem vx_throwSW {cc : ByteArray} {pc : Nat} (hexec : p.tables.exec = Jvm.exec) (hb : c.code = cc) (hl : l.stackTraces = false) {own cls text : String} {names : List String} {ik is ic mc ms sa : Nat} {A : Nat → Prop}
    (hown : s.vm.findClass own = some m.cls) (hcls : Bundle.fit cls = true) (hnames : ∀ n ∈ names, Bundle.fit n = true)
    (hk : (Cond.classLink own ik cls).before args s = true) (hini : (Cond.initialized cls).before args s = true) (hstr : vk_R own is text sa s) (hat : ∀ w ∈ vx_atS own ic cls names, w.before args s = true)
    (hgood : ∀ w ∈ Cond.classLink own ik cls :: Cond.initialized cls :: vx_atS own ic cls names, vx_ot w = true)
    (hU : vx_Zq Bundle.tN "UNASSIGNED_STACK" Bundle.steD A s s.heap) (hN : vx_Zq Bundle.tN "SUPPRESSED_SENTINEL" Bundle.listD A s s.heap) (hS : va_S A s.heap H locs) (hsize : ls.size = c.maxLocals)
    (d0 : decode cc pc = .ok (.new ik, 3)) (d3 : decode cc (pc + 3) = .ok (.dup, 1)) (d4 : decode cc (pc + 4) = .ok (.ldc_w is, 3)) (d7 : decode cc (pc + 7) = .ok (.invokespecial ic, 3)) (d10 : decode cc (pc + 10) = .ok (.athrow, 1))
    (hout : ∀ x ∈ c.exceptionTable.toList, covers x (pc + 10) = false)
    (hRframes : names.length + 3 < R.frames) (hRlocals : (rest.map fun v => v.category).sum + (13 * (names.length + 1) + 43) ≤ R.locals) (hRcells : cells + 1 ≤ R.cells) (hRslots : slots + 6 ≤ R.slots) (hlocks : meth.locks = false)
    (hx : ∀ t : State, s.vm.Alike t.vm → H.size ≤ t.heap.size → (∀ q : Nat, q < H.size → t.heap[q]? = H[q]?) → XC cls s t)
    (hf : ∀ z ∈ locs, free z.base) (hc : cells + 1 ≤ mc) (hs : slots + 6 ≤ ms) :
    W p l e R s m args below meth c H locs cells slots (vx_MQ below Qc XC args s mc ms free) (F0 m pc ls rest) := by
  intro T hT X
  have htr : e.platform.stackTraces = false := (show e.platform.stackTraces = l.stackTraces by rw [X.admits.platform]).trans hl
  have Y := vx_rebase X (R' := { frames := R.frames, locals := R.locals, cells := 1, slots := 6 }) (Nat.le_refl _) (Nat.le_refl _) hRcells hRslots
  obtain ⟨s', hA⟩ : ∃ z, z = (T.setVm s.vm).setFrames (.invoking m args :: below) := ⟨_, rfl⟩
  rw [← hA] at Y
  have hvm : s'.vm = s.vm := by rw [hA]; rfl
  have hhp : s'.heap = H := by rw [hA]; exact hT
  have hW0 : s.WarmedH s'.vm := by rw [hvm]; exact State.WarmedH.refl s
  have hat' : ∀ w ∈ vx_atS own ic cls names, w.before args s' = true := fun w hw => vx_ot_at hW0 hvm.symm (hgood w (List.mem_cons_of_mem _ (List.mem_cons_of_mem _ hw))) (hat w hw)
  have hk' : (Cond.classLink own ik cls).before args s' = true := vx_ot_at hW0 hvm.symm (hgood _ List.mem_cons_self) hk
  have hini' : (Cond.initialized cls).before args s' = true := vx_ot_at hW0 hvm.symm (hgood _ (List.mem_cons_of_mem _ List.mem_cons_self)) hini
  have hU' : vx_Zq Bundle.tN "UNASSIGNED_STACK" Bundle.steD A s' s'.heap := by rw [hhp]; exact vx_Zq.moved hW0.alike (hU.kept hS.2.1)
  have hN' : vx_Zq Bundle.tN "SUPPRESSED_SENTINEL" Bundle.listD A s' s'.heap := by rw [hhp]; exact vx_Zq.moved hW0.alike (hN.kept hS.2.1)
  have h : ∀ w ∈ Bundle.ownAtoms own ic cls names, w.before args s' = true := vx_own hat' (vx_isRefq hU'.1) (vx_isRefq hN'.1) hU'.2.word hN'.2.word
  have hown' : s'.vm.findClass own = some m.cls := by rw [hvm]; exact hown
  have hins : (Cond.instantiable cls 6).before args s' = true := h _ (by simp [Bundle.ownAtoms])
  obtain ⟨vm₁, cX, kX, hfX, hkX, -, -, X₁, st1⟩ := Y.newCold hexec (own := own) (C := cls) (index := ik) (n := 6) hown' hk' hins hini'
    (g := F0 m pc ls rest) rfl (by rw [hb]; exact d0) (Nat.le_refl _) (Nat.le_refl _)
  generalize hT1 : (T.setVm vm₁).pushCell { cls := cX, slots := kX.instanceTypes.map defaultValue, vm := .none } = T1 at X₁ st1
  have hcat : (Value.ref T.heap.size).category = 1 := rfl
  have hcellA : T1.heap[T.heap.size]? = some (freshCell cX kX) := by rw [← hT1]; exact State.heap_pushCell_size _ _
  have d3' : decode c.code (pc + 3) = .ok (.dup, 1) := by rw [hb]; exact d3
  have d4' : decode c.code (pc + 4) = .ok (.ldc_w is, 3) := by rw [hb]; exact d4
  have hstr' : vk_R own is text sa s' := vk_R.warm hW0 hstr
  obtain ⟨U, hsteps, hrun, hend, hW, hsame, ce, hce, hO⟩ := X₁.ctorThrowS hexec htr (own := own) (cls := cls) (names := names) (ic := ic) hown' hcls hnames h (fun x hx => nomatch hx) hfX hkX hcellA (by rw [hhp, hT]; exact Nat.le_refl _) (msg := .ref sa) rfl
    (g := { method := m, pc := pc + 7, locals := ls, stack := .ref sa :: .ref T.heap.size :: .ref T.heap.size :: rest, locked := none }) rfl hsize rfl rfl (rest := rest) rfl
    (by rw [hb]; exact d7) (by rw [hb]; exact d10) hout hRframes (by simp only [List.map_cons, List.sum_cons, hcat]; omega) hlocks
  obtain ⟨f1, f2⟩ := vx_frame hsame
  rw [hhp] at f1 f2
  have hWs : s.WarmedH U.vm := State.WarmedH.trans hW0 hW
  have hcl : s.vm.findClass cls = some ce.cls := by
    have h9 := hO.cls
    rw [hvm] at h9
    exact h9
  have hall : s.sameButNew ({ U with vm := s.vm } : State) locs mc ms := by
    subst hA
    obtain ⟨e1, e2⟩ := hsame
    rw [State.setFrames_setFrames] at e1
    have h2 : (T.setVm s.vm).sameButNew ({ U with vm := s.vm } : State) [] (0 + 1) (0 + 6) := ⟨e1, e2⟩
    have h3 := X.same.trans h2
    rw [List.append_nil] at h3
    exact h3.mono hc hs
  refine ⟨U, ?_, .threw T.heap.size, hrun, hend, Or.inr ⟨T.heap.size, rfl, cls, ce, locs, hx U hWs.alike f1 (fun q hq => f2 q hq (fun z hz => nomatch hz)), hce, hO.vm, hcl, hWs, hall, hf⟩⟩
  refine st1 _ ?_
  show Steps p.tables e below (T1.setTop { method := m, pc := pc + 3, locals := ls, stack := .ref T.heap.size :: rest, locked := none }) _
  jvm_step X₁.here [X₁.here.top, hexec, d3', Value.category]
  exact X₁.ldcStringW hexec (own := own) (text := text) (index := is) (a := sa) hown' hstr'.1 hstr'.2
    (g := { method := m, pc := pc + 4, locals := ls, stack := .ref T.heap.size :: .ref T.heap.size :: rest, locked := none }) rfl d4' _ hsteps
end Ends
section Bodies
variable {l : Launch}
theorem vx_ofW {y : MethodName} {ws ws' : List Cond} {rm : Room} {Pc : Array Value → State → Prop} {Qc : Array Value → State → Outcome → State → Prop} {XC : String → State → State → Prop} {mc ms : Nat} {free : Addr → Prop} {cc : ByteArray} {maxL : Nat} {ret : Option FieldType}
    (hy : plainName y.cls = true) (hw : ws = Cond.code y cc maxL ret :: ws')
    (body : ∀ p e s m args below meth c s₁, BodyLoose p l y (headSpec ws rm) cc maxL ret e s m args below meth c s₁ → c.maxLocals = maxL → (∀ x ∈ c.exceptionTable.toList, False) → Pc args s →
      W p l e (headSpec ws rm).room s m args below meth c s.heap [] 0 0 (vx_MQ below Qc XC args s mc ms free) (entryFrame m args maxL)) : vx_Met l y ws rm Pc Qc XC mc ms free := by
  refine MetFree.of_bodyS (code := cc) (maxLocals := maxL) (ret := ret) hy ?_ ?_
  · intro args s m h hn
    obtain ⟨meth, c, h1, h2, h3, h4, h5, h6, -, -⟩ := Cond.code_spec hn (atoms_spec (ws := ws) h _ (by rw [hw]; exact List.mem_cons_self))
    exact ⟨meth, c, h1, h2, h3, h4, h5, h6⟩
  · intro p e s m args below meth c s₁ B hml hP _
    have hh0 : s₁.heap = s.heap := by rw [B.state]; rfl
    have ht : ∀ x ∈ c.exceptionTable.toList, False := by
      obtain ⟨meth9, c9, h1, h2, -, -, -, -, h7, -⟩ := Cond.code_spec B.named (atoms_spec (ws := ws) B.pre _ (by rw [hw]; exact List.mem_cons_self))
      cases Option.some.inj (h1.symm.trans B.method)
      cases Option.some.inj (h2.symm.trans (Stand.of_body B).code)
      intro x hx
      rw [Array.isEmpty_iff.mp h7] at hx
      cases hx
    obtain ⟨t, a1, o, b1, b2, b3⟩ := body p e s m args below meth c s₁ B hml ht hP s₁ hh0 (Stand.of_body B)
    exact ⟨t, o, a1, b1, b2, b3⟩
/-- the table of a body with handlers -/
theorem vx_table {p : Program} {x y : MethodName} {S : Spec} {cc bytes : ByteArray} {maxL maxL' : Nat} {ret ret' : Option FieldType} {e : Env} {s s₁ : State} {m : MethodId} {args : Array Value} {below : List Frame} {meth : Method} {c : Code} {hh : List (Nat × Nat × Nat × Nat)}
    (B : BodyLoose p l y S cc maxL ret e s m args below meth c s₁) (h : (Cond.codeWith y bytes maxL' ret' hh).before args s = true) : c.exceptionTable.toList = tableOf hh := by
  obtain ⟨m9, meth9, c9, hn9, h1, h2, -, -, h6, -⟩ := Cond.codeWith_spec h
  cases Option.some.inj (hn9.symm.trans B.named)
  cases Option.some.inj (h1.symm.trans B.method)
  cases Option.some.inj (h2.symm.trans (Stand.of_body B).code)
  rw [← h6, table_eq]
end Bodies
end VXA
/-! ===== END ===== -/
/-! ===== BEGIN a static call of a method with an exception table ===== -/
section VXS
variable {p : Program} {l : Launch} {e : Env} {R : Room} {s : State} {m : MethodId} {args : Array Value} {below : List Frame} {meth : Method} {c : Code} {T : State} {H : Heap} {locs : List Loc} {cells slots : Nat}
abbrev vx_CSW (R : Room) (s : State) (args : Array Value) (own : String) (index : Nat) (y : MethodName) (bytes : ByteArray) (maxL : Nat) (ret : Option FieldType) (hh : List (Nat × Nat × Nat × Nat)) (ws : List Cond) (rm : Room) (mc ms n : Nat) : Prop :=
  (rm.cells = mc ∧ rm.slots = ms ∧ rm.frames + 1 ≤ R.frames ∧ 8 + (maxL + 11) + rm.locals ≤ R.locals ∧ (∀ w ∈ ws, ∀ (a' : Array Value) (U : State), s.WarmedH U.vm → w.before a' U = true) ∧ Cond.codeWith y bytes maxL ret hh ∈ ws) ∧
  (Cond.codeWith y bytes maxL ret hh).before args s = true ∧ (Cond.initialized y.cls).before args s = true ∧ (y.cls ≠ "java/lang/invoke/MethodHandle" ∧ y.cls ≠ "java/lang/invoke/VarHandle") ∧
  (∀ sig, parseMethodDescriptor y.desc = some sig → n = sig.parameters.length) ∧ (Cond.methodLink own index y).before args s = true ∧ (Cond.static y).before args s = true
theorem vx_cwSW {own : String} {index maxL mc ms : Nat} {y : MethodName} {bytes : ByteArray} {ret : Option FieldType} {hh : List (Nat × Nat × Nat × Nat)} {Ts ws ws' : List Cond} {rm : Room} (n : Nat) (ht : ∀ w ∈ Ts, w.before args s = true) (hT : GoodIn Ts (va_wsS own index y ws)) (hw : ws = Cond.codeWith y bytes maxL ret hh :: ws') (hrc : rm.cells = mc) (hrs : rm.slots = ms)
    (hd : y.cls ≠ "java/lang/invoke/MethodHandle" ∧ y.cls ≠ "java/lang/invoke/VarHandle" ∧ (parseMethodDescriptor y.desc).map (fun d => d.parameters.length) = some n) (hR : rm.frames + 1 ≤ R.frames ∧ 8 + (maxL + 11) + rm.locals ≤ R.locals) :
    vx_CSW R s args own index y bytes maxL ret hh ws rm mc ms n := by
  have ok : ∀ w ∈ va_wsS own index y ws, w.before args s = true := fun w h => ht w (hT w h).1
  have hG : GoodIn Ts ws := fun w h => hT w (by unfold va_wsS; exact List.mem_append_right _ h)
  have hc : Cond.codeWith y bytes maxL ret hh ∈ ws := by rw [hw]; exact List.mem_cons_self
  refine ⟨⟨hrc, hrs, hR.1, hR.2, pay_in ht hG, hc⟩, ht _ (hG _ hc).1, ok _ (by simp [va_wsS]), ⟨hd.1, hd.2.1⟩, fun sig h => ?_, ok _ (by simp [va_wsS]), ok _ (by simp [va_wsS])⟩
  have h2 := hd.2.2
  rw [h] at h2
  exact (Option.some.inj h2).symm
theorem vx_callSW (X : Stand p l e R s m args below meth c T locs cells slots) (hexec : p.tables.exec = Jvm.exec) {own : String} {index : Nat} {y : MethodName} {bytes : ByteArray} {maxL : Nat} {ret : Option FieldType} {hh : List (Nat × Nat × Nat × Nat)}
    (hown : s.vm.findClass own = some m.cls) (hlink : (Cond.methodLink own index y).before args s = true) (hstat : (Cond.static y).before args s = true) (hinit : (Cond.initialized y.cls).before args s = true)
    (hcode : (Cond.codeWith y bytes maxL ret hh).before args s = true) (hy : y.cls ≠ "java/lang/invoke/MethodHandle" ∧ y.cls ≠ "java/lang/invoke/VarHandle")
    {W9 : Nat} {Pre : Pt → Array Value → Prop} {Post : Pt → Array Value → Option Value → Pt → Prop} (hK : Back l R p e below s args y 3 W9 Pre Post)
    {g : JFrame} (hg : g.method = m) (hsize : g.locals.size = c.maxLocals) {argsL rest : List Value} (hlen : ∀ sig, parseMethodDescriptor y.desc = some sig → argsL.length = sig.parameters.length)
    (hstack : g.stack = argsL.reverse ++ rest) (hW : 2 * g.monitorRoom + (rest.map fun v => v.category).sum ≤ W9) (hdg : decode c.code g.pc = .ok (.invokestatic index, 3))
    (hpre : ∀ vm₁, s.WarmedH vm₁ → Pre ⟨T.setVm vm₁, locs, cells, slots⟩ argsL.toArray) :
    ∃ (v : Option Value) (vm₁ : Vm) (B : Pt), s.WarmedH vm₁ ∧ Stand p l e R s m args below meth c B.U B.locs B.cells B.slots ∧ Post ⟨T.setVm vm₁, locs, cells, slots⟩ argsL.toArray v B ∧
      ∀ target, Steps p.tables e below (B.U.setTop { g with pc := g.pc + 3, stack := v.toList ++ rest }) target → Steps p.tables e below (T.setTop g) target := by
  obtain ⟨mk, methM, cM, hnamed, hmethM, -, -, -, -, -, -, hsigM⟩ := Cond.codeWith_spec hcode
  have hstatic : methM.isStatic = true := Cond.static_spec hnamed hmethM hstat
  obtain ⟨kP, hkP, -⟩ := className_of_methodNamed hnamed
  have hinitP : kP.init = .initialized := Cond.initialized_spec (findClass_of_methodNamed hnamed) hkP hinit
  obtain ⟨vm₁, X₁, hstep₁⟩ := X.invokestatic hexec hown hlink hnamed hmethM hstatic hkP hinitP hy (g := g) hg (argsL := argsL) (rest := rest) (hlen _ hsigM) hstack hdg
  obtain ⟨v, B, X', hpost, hsteps⟩ := hK m meth c ⟨T.setVm vm₁, locs, cells, slots⟩ { g with stack := rest } (.invokestatic index) mk argsL.toArray X₁ hg hsize hdg hW (X₁.named hnamed) (hpre vm₁ X₁.warmed)
  exact ⟨v, vm₁, B, X₁.warmed, X', hpost, fun target h => hstep₁ _ fun acts => by rw [doInvoke_state]; exact hsteps.trans h⟩
theorem vx_runSW {y : MethodName} {bytes cc : ByteArray} {maxL nL mc ms n index : Nat} {ret : Option FieldType} {hh : List (Nat × Nat × Nat × Nat)} {ws : List Cond} {rm : Room} {Pc : Array Value → State → Prop} {Qc : Array Value → State → Outcome → State → Prop} {free : Addr → Prop} {Ts : List Cond} {own : String} {As rest : List Value} {g : JFrame}
    (S : CallFix p m c cc nL s args Ts own) (hM : Met l y ws rm Pc Qc mc ms free) (cw : vx_CSW R s args own index y bytes maxL ret hh ws rm mc ms n) (hp : PreS s H Pc As)
    (hg : g.method = m) (hn : As.length = n) (hsize : g.locals.size = nL) (hstack : g.stack = As.reverse ++ rest) (hW : 2 * g.monitorRoom + (rest.map fun v => v.category).sum ≤ 8) (hdg : decode cc g.pc = .ok (.invokestatic index, 3)) (hf : cells + mc ≤ R.cells ∧ slots + ms ≤ R.slots) :
    va_Run p l e R s m args below meth c H locs cells slots mc ms g rest (Qc As.toArray) (free) := by
  obtain ⟨⟨hrc, hrs, hfr, hlo, hws, hcw⟩, hcode, hini, hy, hlen, hl, hstt⟩ := cw
  have hK : Back l R p e below s args y 3 8 (PreOf R mc ms Pc) (PostOf Qc mc ms free) := va_backW (hh := hh) (bytes := bytes) (maxL := maxL) (ret := ret) hM hp.1 hrc hrs hfr hlo hws hcw (fun a' U hW => word_at hW (Or.inl (by first | rfl | simp [Cond.onTables, Cond.keeps, Cond.steady])) hini)
  obtain ⟨hx, hb, hml, ho, -⟩ := S
  intro T hT X
  obtain ⟨v, vm₁, ⟨U', l2, c2, s2⟩, hW₁, X', ⟨g', mk, t, L, e1, e2, hq, h1, hL, h2, h3⟩, st⟩ := vx_callSW X hx (hh := hh) (bytes := bytes) (maxL := maxL) (ret := ret) ho hl hstt hini hcode hy hK hg (hsize.trans hml.symm) (argsL := As) (rest := rest) (fun sig h => hn.trans (hlen sig h)) hstack hW (by rw [hb]; exact hdg)
    (fun vm₁ hW₁ => ⟨hf.1, hf.2, hp.2 (T.setVm vm₁) hT hW₁⟩)
  dsimp only [Pt.U, Pt.locs, Pt.cells, Pt.slots] at X' e1 e2 h1 h2 h3 st
  subst h1; subst h2; subst h3
  exact ⟨v, (T.setVm vm₁).calling g' mk As.toArray, t, U', L, hT, X', hL, e1, e2, hq, st⟩
/-- not caught here, past rows that name other classes: it goes on to the caller -/
theorem vx_outP {p : Program} {l : Launch} {e : Env} {R : Room} {s : State} {m : MethodId} {args : Array Value} {below : List Frame} {meth : Method} {c : Code} {H : Heap} {locs : List Loc} {cells slots : Nat} {free : Addr → Prop} {ls : Array Slot} {rest : List Value} {Qc : Array Value → State → Outcome → State → Prop} {XC : String → State → State → Prop}
    {pc : Nat} {own E : String} {ce : Cell} {q : Addr} {mc ms : Nat} (hown : s.vm.findClass own = some m.cls) (hlocks : meth.locks = false)
    (hpass : ∀ z ∈ c.exceptionTable.toList, covers z pc = false ∨ (z.catchType ≠ 0 ∧ ∃ nm : String, (Cond.classLink own z.catchType nm).before args s = true ∧ va_Nc E nm s)) (hcell : H[q]? = some ce) (hv : ce.vm = .none) (hcl : s.vm.findClass E = some ce.cls)
    (hx : ∀ t : State, t.heap = H → s.vm.Alike t.vm → XC E s t) (hf : ∀ z ∈ locs, free z.base) (hc : cells ≤ mc) (hs : slots ≤ ms) :
    vx_W p l e R s m args below meth c H locs cells slots (vx_MQ below Qc XC args s mc ms free) (F0 m pc ls rest) q := by
  intro T hT X
  have hpl : e.platform.magicAccessors = ({} : Platform).magicAccessors := by rw [X.admits.platform]
  obtain ⟨vm', hW', X', st⟩ := X.outThrough hlocks q (g := F0 m pc ls rest) rfl rfl rfl (cell := ce) (by rw [hT]; exact hcell) (by rw [hv]; rfl)
    (by obtain ⟨k9, h9, -⟩ := Vm.findClass_spec hcl; exact ⟨k9, h9⟩) (fun z hz => by
      rcases hpass z hz with h | ⟨hz0, nm, hl1, hn1⟩
      · exact Or.inl h
      · obtain ⟨c6, hc6, hcl6⟩ := Cond.classLink_spec hown hl1 e.platform hpl
        obtain ⟨a8, b8, h1, h2, h3⟩ := hn1
        cases Option.some.inj (h1.symm.trans hcl)
        cases Option.some.inj (h2.symm.trans hc6)
        exact Or.inr ⟨hz0, _, hcl6, h3⟩)
  obtain ⟨g₀, hfr⟩ := X'.frames_eq
  have hcell9 : ((T.setVm vm').setFrames (.throwing q :: below)).heap[q]? = some ce := by
    show T.heap[q]? = some ce
    rw [hT]; exact hcell
  have hend : Ended ((T.setVm vm').setFrames (.throwing q :: below)) below (.threw q) := State.frames_setFrames _ (State.cur_lt_of_frames hfr)
  refine ⟨(T.setVm vm').setFrames (.throwing q :: below), ?_, .threw q, X'.here.running, hend, Or.inr ⟨q, rfl, E, ce, locs, hx _ hT (X'.ends _).1.alike, hcell9, hv, hcl, (X'.ends _).1, (X'.ends _).2.mono hc hs, hf⟩⟩
  rw [X.pushThrowing_eq]
  exact st
/-- a thing of a world lies in the heap -/
theorem vx_lt {D : va_G} {cl : List vw_C} {ws : va_W} {H1 : Heap} (h : va_P D cl ws H1) {k : Nat} {q : Nat × va_E} (hk : ws[k]? = some q) : q.1 < H1.size := (h k q hk).lt
end VXS
/-! ===== END ===== -/
/-! ===== BEGIN methods with a table of their own: called by a name, returning or throwing ===== -/
section VXH
/-! vx_backW, vx_callVX, vx_callSX, vx_callVW, vx_runVW, vx_runVX, vx_runSX, vx_ofWH follow the same proofs as their sisters above (Free/Laws.lean, Shelf42/LK1.lean); vx_outP calls Shelf42/NT130.lean (outThrough). -/
section
variable {l : Launch} {R : Room} {p : Program} {e : Env} {below : List Frame} {s : State} {sargs : Array Value} {y : MethodName} {len W9 : Nat}
theorem vx_backW {ws : List Cond} {rm : Room} {Pc : Array Value → State → Prop} {Qc : Array Value → State → Outcome → State → Prop} {XC : String → State → State → Prop} {mc ms : Nat} {free : Addr → Prop} {bytes : ByteArray} {maxL : Nat} {ret : Option FieldType} {hh : List (Nat × Nat × Nat × Nat)}
    (hM : vx_Met l y ws rm Pc Qc XC mc ms free) (hblind : FrameBlind Pc) (hrc : rm.cells = mc) (hrs : rm.slots = ms)
    (hframes : rm.frames + 1 ≤ R.frames) (hlocals : W9 + (maxL + 11) + rm.locals ≤ R.locals)
    (hws : ∀ w ∈ ws, ∀ a' U, s.WarmedH U.vm → w.before a' U = true) (hcode : Cond.codeWith y bytes maxL ret hh ∈ ws) (hinit : ∀ a' U, s.WarmedH U.vm → (Cond.initialized y.cls).before a' U = true) :
    vx_Back l R p e below s sargs y len W9 (PreOf R mc ms Pc) (PostOf Qc mc ms free) (vx_Post XC mc ms free) := by
  intro m meth c A g ig mk a X hg hsize hdg hW hn hp
  have h1 : (headSpec ws rm).pre.before a A.U = true := atoms_intro fun w hw => hws w hw _ _ X.warmed
  have h2 : (Cond.codeWith y bytes maxL ret hh).before a A.U = true := hws _ hcode _ _ X.warmed
  have h3 : (Cond.initialized y.cls).before a A.U = true := hinit _ _ X.warmed
  have h4 : A.cells + (headSpec ws rm).room.cells ≤ R.cells := by rw [show (headSpec ws rm).room.cells = mc from hrc]; exact hp.1
  have h5 : A.slots + (headSpec ws rm).room.slots ≤ R.slots := by rw [show (headSpec ws rm).room.slots = ms from hrs]; exact hp.2.1
  have hPc : Pc a (A.U.calling g mk a) := hblind _ _ _ _ hp.2.2
  obtain ⟨U, Ls, c0, s0⟩ := A
  dsimp only [Pt.U, Pt.locs, Pt.cells, Pt.slots] at h1 h2 h3 h4 h5 X hn hPc ⊢
  obtain ⟨m9, methY, cY, hn9, hmY, hcY, -, hlY, -⟩ := Cond.codeWith_spec h2
  cases Option.some.inj (hn9.symm.trans hn)
  obtain ⟨kY, hkY, -⟩ := className_of_methodNamed hn
  have hinitY : kY.init = .initialized := Cond.initialized_spec (findClass_of_methodNamed hn) hkY h3
  have h : At U g.method c below := by rw [hg]; exact X.here
  have hlocals9 : W9 + (maxL + 11) + (headSpec ws rm).room.locals ≤ R.locals := hlocals
  have happ : (headSpec ws rm).appliesLoose y e.platform (U.calling g mk a) = true :=
    Spec.appliesLoose_calling (g := g) h hdg hn hkY hinitY
      (X.room_calling (g := g) (R' := (headSpec ws rm).room) hsize hmY hcY hframes (by rw [hlY]; omega) h4 h5) h1
  obtain ⟨mid, hmid⟩ := h.above
  have hfr : (U.setTop g).frames = (.java g :: mid) ++ below := by rw [State.frames_setTop' g h.top, hmid]; rfl
  obtain ⟨o, s₂, hsteps, -, hend, hq⟩ := Steps.callFree hM p X.admits X.cas X.clock (acts := []) hfr happ hPc trivial
  have hq' : vx_Q Qc XC mc ms free a (U.calling g mk a) o s₂ := hq
  rw [State.frames_setTop' g h.top] at hend
  obtain ⟨g₀, hg0⟩ := Option.isSome_iff_exists.mp h.top
  obtain ⟨r, hr⟩ := State.topJava?_eq_some.mp hg0
  have hr' : (({ U with heap := s₂.heap, slotsUsed := s₂.slotsUsed } : State).setVm s₂.vm).frames = .java g₀ :: r := hr
  rcases hq' with ⟨hqc, L, hfe, hL⟩ | ⟨q, rfl, E, ce, L, hx, hce, hcv, hcl, hW₂, hsm, hL⟩
  · obtain ⟨⟨v, rfl⟩, hW₂, e2, q2, q3, q4, q5, q6⟩ := id hfe
    have e3 : s₂ = ({ (U.calling g mk a).setFrames s₂.frames with heap := s₂.heap, slotsUsed := s₂.slotsUsed } : State).setVm s₂.vm := by
      have : s₂ = ({ s₂ with vm := (U.calling g mk a).vm } : State).setVm s₂.vm := rfl
      rw [e2] at this
      exact this
    obtain ⟨c₂, i₂, len₂, hc₂, hd₂, hf₂⟩ := hend
    have hW' : U.WarmedH s₂.vm := hW₂
    have hcc : c₂ = c := by
      have h1 : s₂.code? g.method = U.code? g.method := by
        rw [State.code?_eq, State.code?_eq, hW'.alike.method?]
      exact Option.some.inj (hc₂.symm.trans (h1.trans h.code))
    subst hcc
    have hlen : len₂ = len := by rw [hdg] at hd₂; cases hd₂; rfl
    subst hlen
    have hs₂ : s₂ = (({ U with heap := s₂.heap, slotsUsed := s₂.slotsUsed } : State).setVm s₂.vm).setTop { g with pc := g.pc + len₂, stack := v.toList ++ g.stack } := by
      refine e3.trans ?_
      rw [hf₂, State.calling_eq h.top, State.setFrames_setFrames, State.setTop_of_frames _ hr', hr]
      rfl
    have hsame : U.sameButNew ({ U with heap := s₂.heap, slotsUsed := s₂.slotsUsed } : State) L mc ms := by
      refine ⟨?_, q2, q3, q4, q5, q6⟩
      obtain ⟨t, ht, -⟩ := State.frames_cons hr
      show ({ U with heap := s₂.heap, slotsUsed := s₂.slotsUsed } : State) = { U.setFrames U.frames with heap := s₂.heap, slotsUsed := s₂.slotsUsed }
      rw [State.setFrames_self ht]
    subst hg
    refine Or.inl ⟨v, ⟨(({ U with heap := s₂.heap, slotsUsed := s₂.slotsUsed } : State).setVm s₂.vm), Ls ++ L, c0 + mc, s0 + ms⟩,
      ⟨X.admits, X.cas, X.clock, X.frames, X.room, X.hears, X.method, X.code, (X.here.setHeapUsed s₂.heap s₂.slotsUsed).setVm hW'.alike, X.tail, State.WarmedH.trans X.warmed hW', X.limits, X.bytes, X.same.trans (hsame.setVm s.vm)⟩,
      ⟨g, mk, s₂, L, rfl, rfl, hqc, rfl, hL, rfl, rfl⟩, ?_⟩
    show Steps p.tables e below _ ((({ U with heap := s₂.heap, slotsUsed := s₂.slotsUsed } : State).setVm s₂.vm).setTop { g with pc := g.pc + len₂, stack := v.toList ++ g.stack })
    rw [← hs₂]
    exact hsteps
  · obtain ⟨e2, q2, q3, q4, q5, q6⟩ := id hsm
    have e3 : s₂ = ({ (U.calling g mk a).setFrames s₂.frames with heap := s₂.heap, slotsUsed := s₂.slotsUsed } : State).setVm s₂.vm := by
      have : s₂ = ({ s₂ with vm := (U.calling g mk a).vm } : State).setVm s₂.vm := rfl
      rw [e2] at this
      exact this
    have hf₂ : s₂.frames = .throwing q :: .java g :: U.frames.tail := hend
    have hW' : U.WarmedH s₂.vm := hW₂
    have hs₂ : s₂ = ((({ U with heap := s₂.heap, slotsUsed := s₂.slotsUsed } : State).setVm s₂.vm).setTop g).pushFrame (.throwing q) := by
      refine e3.trans ?_
      rw [hf₂, State.calling_eq h.top, State.setFrames_setFrames, State.pushFrame, State.frames_setTop _ hr', State.setTop_of_frames _ hr', State.setFrames_setFrames, hr]
      rfl
    have hsame : U.sameButNew ({ U with heap := s₂.heap, slotsUsed := s₂.slotsUsed } : State) L mc ms := by
      refine ⟨?_, q2, q3, q4, q5, q6⟩
      obtain ⟨t, ht, -⟩ := State.frames_cons hr
      show ({ U with heap := s₂.heap, slotsUsed := s₂.slotsUsed } : State) = { U.setFrames U.frames with heap := s₂.heap, slotsUsed := s₂.slotsUsed }
      rw [State.setFrames_self ht]
    subst hg
    refine Or.inr ⟨q, ⟨(({ U with heap := s₂.heap, slotsUsed := s₂.slotsUsed } : State).setVm s₂.vm), Ls ++ L, c0 + mc, s0 + ms⟩,
      ⟨X.admits, X.cas, X.clock, X.frames, X.room, X.hears, X.method, X.code, (X.here.setHeapUsed s₂.heap s₂.slotsUsed).setVm hW'.alike, X.tail, State.WarmedH.trans X.warmed hW', X.limits, X.bytes, X.same.trans (hsame.setVm s.vm)⟩,
      ⟨g, mk, s₂, L, E, ce, rfl, rfl, hx, hce, hcv, hcl, rfl, hL, rfl, rfl⟩, ?_⟩
    show Steps p.tables e below _ (((({ U with heap := s₂.heap, slotsUsed := s₂.slotsUsed } : State).setVm s₂.vm).setTop g).pushFrame (.throwing q))
    rw [← hs₂]
    exact hsteps
end
variable {p : Program} {l : Launch} {e : Env} {R : Room} {s : State} {m : MethodId} {args : Array Value} {below : List Frame} {meth : Method} {c : Code} {T : State} {H : Heap} {locs : List Loc} {cells slots : Nat}
theorem vx_callVX (X : Stand p l e R s m args below meth c T locs cells slots) (hexec : p.tables.exec = Jvm.exec) {own C : String} {index : Nat} {y : MethodName} {bytes : ByteArray} {maxL : Nat} {ret : Option FieldType} {hh : List (Nat × Nat × Nat × Nat)}
    (hown : s.vm.findClass own = some m.cls) (hlink : (Cond.methodLink own index y).before args s = true) (hinst : (Cond.instanceMethod y).before args s = true) (hsel : (Cond.selects C y y).before args s = true)
    (hcode : (Cond.codeWith y bytes maxL ret hh).before args s = true) (hy : y.cls ≠ "java/lang/invoke/MethodHandle" ∧ y.cls ≠ "java/lang/invoke/VarHandle")
    {W9 : Nat} {Pre : Pt → Array Value → Prop} {Post : Pt → Array Value → Option Value → Pt → Prop} {PostX : Pt → Array Value → Addr → Pt → Prop} (hK : vx_Back l R p e below s args y 3 W9 Pre Post PostX)
    {b : Addr} {cellB : Cell} (hcell : T.heap[b]? = some cellB) (hobj : cellB.vm.isStatics = false) (hcls : s.vm.findClass C = some cellB.cls)
    {g : JFrame} (hg : g.method = m) (hsize : g.locals.size = c.maxLocals) {argsL rest : List Value} (hlen : ∀ sig, parseMethodDescriptor y.desc = some sig → argsL.length = sig.parameters.length)
    (hstack : g.stack = argsL.reverse ++ .ref b :: rest) (hW : 2 * g.monitorRoom + (rest.map fun v => v.category).sum ≤ W9) (hdg : decode c.code g.pc = .ok (.invokevirtual index, 3))
    (hpre : ∀ vm₁, s.WarmedH vm₁ → Pre ⟨T.setVm vm₁, locs, cells, slots⟩ (Value.ref b :: argsL).toArray) :
    (∃ (v : Option Value) (vm₁ : Vm) (B : Pt), s.WarmedH vm₁ ∧ Stand p l e R s m args below meth c B.U B.locs B.cells B.slots ∧ Post ⟨T.setVm vm₁, locs, cells, slots⟩ (Value.ref b :: argsL).toArray v B ∧
      ∀ target, Steps p.tables e below (B.U.setTop { g with pc := g.pc + 3, stack := v.toList ++ rest }) target → Steps p.tables e below (T.setTop g) target) ∨
    (∃ (q : Addr) (vm₁ : Vm) (B : Pt), s.WarmedH vm₁ ∧ Stand p l e R s m args below meth c B.U B.locs B.cells B.slots ∧ PostX ⟨T.setVm vm₁, locs, cells, slots⟩ (Value.ref b :: argsL).toArray q B ∧
      Steps p.tables e below (T.setTop g) ((B.U.setTop { g with stack := rest }).pushFrame (.throwing q))) := by
  obtain ⟨mk, methM, hnamed, hmethM, hstM, habM⟩ := Cond.instanceMethod_spec hinst
  obtain ⟨m8, methM', cM, hn8, hmethM', -, -, -, -, -, -, hsigM⟩ := Cond.codeWith_spec hcode
  cases Option.some.inj (hn8.symm.trans hnamed)
  cases hmethM.symm.trans hmethM'
  obtain ⟨c2, r2, m2, q1, q2, q3, q4, kP, hkP, hkPi⟩ := Cond.selects_spec hsel
  cases hcls.symm.trans q1
  cases (State.methodFound?_of_named hnamed hy).symm.trans q2
  cases hnamed.symm.trans q3
  have hselP : selectMethod e.platform s.vm cellB.cls mk = .method mk := by rw [Launch.admits_selectMethod X.admits]; exact q4
  obtain ⟨vm₁, X₁, hstep₁⟩ := X.invokevirtual hexec hown hlink hnamed hmethM hstM hkP hkPi hy (a := b) (cell := cellB) hcell
    (fun z h => by rw [h] at hobj; cases hobj) hselP hmethM habM hkP hkPi (g := g) hg (argsL := argsL) (rest := rest) (hlen _ hsigM) hstack hdg
  rcases hK m meth c ⟨T.setVm vm₁, locs, cells, slots⟩ { g with stack := rest } (.invokevirtual index) mk (Value.ref b :: argsL).toArray X₁ hg hsize hdg hW (X₁.named hnamed) (hpre vm₁ X₁.warmed) with ⟨v, B, X', hpost, hsteps⟩ | ⟨q, B, X', hpost, hsteps⟩
  · exact Or.inl ⟨v, vm₁, B, X₁.warmed, X', hpost, fun target h => hstep₁ _ fun acts => by rw [doInvoke_state]; exact hsteps.trans h⟩
  · exact Or.inr ⟨q, vm₁, B, X₁.warmed, X', hpost, hstep₁ _ fun acts => by rw [doInvoke_state]; exact hsteps⟩
theorem vx_callSX (X : Stand p l e R s m args below meth c T locs cells slots) (hexec : p.tables.exec = Jvm.exec) {own : String} {index : Nat} {y : MethodName} {bytes : ByteArray} {maxL : Nat} {ret : Option FieldType} {hh : List (Nat × Nat × Nat × Nat)}
    (hown : s.vm.findClass own = some m.cls) (hlink : (Cond.methodLink own index y).before args s = true) (hstat : (Cond.static y).before args s = true) (hinit : (Cond.initialized y.cls).before args s = true)
    (hcode : (Cond.codeWith y bytes maxL ret hh).before args s = true) (hy : y.cls ≠ "java/lang/invoke/MethodHandle" ∧ y.cls ≠ "java/lang/invoke/VarHandle")
    {W9 : Nat} {Pre : Pt → Array Value → Prop} {Post : Pt → Array Value → Option Value → Pt → Prop} {PostX : Pt → Array Value → Addr → Pt → Prop} (hK : vx_Back l R p e below s args y 3 W9 Pre Post PostX)
    {g : JFrame} (hg : g.method = m) (hsize : g.locals.size = c.maxLocals) {argsL rest : List Value} (hlen : ∀ sig, parseMethodDescriptor y.desc = some sig → argsL.length = sig.parameters.length)
    (hstack : g.stack = argsL.reverse ++ rest) (hW : 2 * g.monitorRoom + (rest.map fun v => v.category).sum ≤ W9) (hdg : decode c.code g.pc = .ok (.invokestatic index, 3))
    (hpre : ∀ vm₁, s.WarmedH vm₁ → Pre ⟨T.setVm vm₁, locs, cells, slots⟩ argsL.toArray) :
    (∃ (v : Option Value) (vm₁ : Vm) (B : Pt), s.WarmedH vm₁ ∧ Stand p l e R s m args below meth c B.U B.locs B.cells B.slots ∧ Post ⟨T.setVm vm₁, locs, cells, slots⟩ argsL.toArray v B ∧
      ∀ target, Steps p.tables e below (B.U.setTop { g with pc := g.pc + 3, stack := v.toList ++ rest }) target → Steps p.tables e below (T.setTop g) target) ∨
    (∃ (q : Addr) (vm₁ : Vm) (B : Pt), s.WarmedH vm₁ ∧ Stand p l e R s m args below meth c B.U B.locs B.cells B.slots ∧ PostX ⟨T.setVm vm₁, locs, cells, slots⟩ argsL.toArray q B ∧
      Steps p.tables e below (T.setTop g) ((B.U.setTop { g with stack := rest }).pushFrame (.throwing q))) := by
  obtain ⟨mk, methM, cM, hnamed, hmethM, -, -, -, -, -, -, hsigM⟩ := Cond.codeWith_spec hcode
  have hstatic : methM.isStatic = true := Cond.static_spec hnamed hmethM hstat
  obtain ⟨kP, hkP, -⟩ := className_of_methodNamed hnamed
  have hinitP : kP.init = .initialized := Cond.initialized_spec (findClass_of_methodNamed hnamed) hkP hinit
  obtain ⟨vm₁, X₁, hstep₁⟩ := X.invokestatic hexec hown hlink hnamed hmethM hstatic hkP hinitP hy (g := g) hg (argsL := argsL) (rest := rest) (hlen _ hsigM) hstack hdg
  rcases hK m meth c ⟨T.setVm vm₁, locs, cells, slots⟩ { g with stack := rest } (.invokestatic index) mk argsL.toArray X₁ hg hsize hdg hW (X₁.named hnamed) (hpre vm₁ X₁.warmed) with ⟨v, B, X', hpost, hsteps⟩ | ⟨q, B, X', hpost, hsteps⟩
  · exact Or.inl ⟨v, vm₁, B, X₁.warmed, X', hpost, fun target h => hstep₁ _ fun acts => by rw [doInvoke_state]; exact hsteps.trans h⟩
  · exact Or.inr ⟨q, vm₁, B, X₁.warmed, X', hpost, hstep₁ _ fun acts => by rw [doInvoke_state]; exact hsteps⟩
theorem vx_callVW (X : Stand p l e R s m args below meth c T locs cells slots) (hexec : p.tables.exec = Jvm.exec) {own C : String} {index : Nat} {y : MethodName} {bytes : ByteArray} {maxL : Nat} {ret : Option FieldType} {hh : List (Nat × Nat × Nat × Nat)}
    (hown : s.vm.findClass own = some m.cls) (hlink : (Cond.methodLink own index y).before args s = true) (hinst : (Cond.instanceMethod y).before args s = true) (hsel : (Cond.selects C y y).before args s = true)
    (hcode : (Cond.codeWith y bytes maxL ret hh).before args s = true) (hy : y.cls ≠ "java/lang/invoke/MethodHandle" ∧ y.cls ≠ "java/lang/invoke/VarHandle")
    {W9 : Nat} {Pre : Pt → Array Value → Prop} {Post : Pt → Array Value → Option Value → Pt → Prop} (hK : Back l R p e below s args y 3 W9 Pre Post)
    {b : Addr} {cellB : Cell} (hcell : T.heap[b]? = some cellB) (hobj : cellB.vm.isStatics = false) (hcls : s.vm.findClass C = some cellB.cls)
    {g : JFrame} (hg : g.method = m) (hsize : g.locals.size = c.maxLocals) {argsL rest : List Value} (hlen : ∀ sig, parseMethodDescriptor y.desc = some sig → argsL.length = sig.parameters.length)
    (hstack : g.stack = argsL.reverse ++ .ref b :: rest) (hW : 2 * g.monitorRoom + (rest.map fun v => v.category).sum ≤ W9) (hdg : decode c.code g.pc = .ok (.invokevirtual index, 3))
    (hpre : ∀ vm₁, s.WarmedH vm₁ → Pre ⟨T.setVm vm₁, locs, cells, slots⟩ (Value.ref b :: argsL).toArray) :
    ∃ (v : Option Value) (vm₁ : Vm) (B : Pt), s.WarmedH vm₁ ∧ Stand p l e R s m args below meth c B.U B.locs B.cells B.slots ∧ Post ⟨T.setVm vm₁, locs, cells, slots⟩ (Value.ref b :: argsL).toArray v B ∧
      ∀ target, Steps p.tables e below (B.U.setTop { g with pc := g.pc + 3, stack := v.toList ++ rest }) target → Steps p.tables e below (T.setTop g) target := by
  obtain ⟨mk, methM, hnamed, hmethM, hstM, habM⟩ := Cond.instanceMethod_spec hinst
  obtain ⟨m8, methM', cM, hn8, hmethM', -, -, -, -, -, -, hsigM⟩ := Cond.codeWith_spec hcode
  cases Option.some.inj (hn8.symm.trans hnamed)
  cases hmethM.symm.trans hmethM'
  obtain ⟨c2, r2, m2, q1, q2, q3, q4, kP, hkP, hkPi⟩ := Cond.selects_spec hsel
  cases hcls.symm.trans q1
  cases (State.methodFound?_of_named hnamed hy).symm.trans q2
  cases hnamed.symm.trans q3
  have hselP : selectMethod e.platform s.vm cellB.cls mk = .method mk := by rw [Launch.admits_selectMethod X.admits]; exact q4
  obtain ⟨vm₁, X₁, hstep₁⟩ := X.invokevirtual hexec hown hlink hnamed hmethM hstM hkP hkPi hy (a := b) (cell := cellB) hcell
    (fun z h => by rw [h] at hobj; cases hobj) hselP hmethM habM hkP hkPi (g := g) hg (argsL := argsL) (rest := rest) (hlen _ hsigM) hstack hdg
  obtain ⟨v, B, X', hpost, hsteps⟩ := hK m meth c ⟨T.setVm vm₁, locs, cells, slots⟩ { g with stack := rest } (.invokevirtual index) mk (Value.ref b :: argsL).toArray X₁ hg hsize hdg hW (X₁.named hnamed) (hpre vm₁ X₁.warmed)
  exact ⟨v, vm₁, B, X₁.warmed, X', hpost, fun target h => hstep₁ _ fun acts => by rw [doInvoke_state]; exact hsteps.trans h⟩
abbrev vx_CVW (R : Room) (s : State) (args : Array Value) (own C : String) (index : Nat) (y : MethodName) (bytes : ByteArray) (maxL : Nat) (ret : Option FieldType) (hh : List (Nat × Nat × Nat × Nat)) (ws : List Cond) (rm : Room) (mc ms n : Nat) : Prop :=
  (rm.cells = mc ∧ rm.slots = ms ∧ rm.frames + 1 ≤ R.frames ∧ 8 + (maxL + 11) + rm.locals ≤ R.locals ∧ (∀ w ∈ ws, ∀ (a' : Array Value) (U : State), s.WarmedH U.vm → w.before a' U = true) ∧ Cond.codeWith y bytes maxL ret hh ∈ ws) ∧
  (Cond.codeWith y bytes maxL ret hh).before args s = true ∧ (Cond.initialized y.cls).before args s = true ∧ (y.cls ≠ "java/lang/invoke/MethodHandle" ∧ y.cls ≠ "java/lang/invoke/VarHandle") ∧
  (∀ sig, parseMethodDescriptor y.desc = some sig → n = sig.parameters.length) ∧ (Cond.methodLink own index y).before args s = true ∧ (Cond.instanceMethod y).before args s = true ∧ (Cond.selects C y y).before args s = true
theorem vx_cwVW {own C : String} {index maxL mc ms : Nat} {y : MethodName} {bytes : ByteArray} {ret : Option FieldType} {hh : List (Nat × Nat × Nat × Nat)} {Ts ws ws' : List Cond} {rm : Room} (n : Nat) (ht : ∀ w ∈ Ts, w.before args s = true) (hT : GoodIn Ts (wsV own index C y ws)) (hw : ws = Cond.codeWith y bytes maxL ret hh :: ws') (hrc : rm.cells = mc) (hrs : rm.slots = ms)
    (hd : y.cls = C ∧ y.cls ≠ "java/lang/invoke/MethodHandle" ∧ y.cls ≠ "java/lang/invoke/VarHandle" ∧ (parseMethodDescriptor y.desc).map (fun d => d.parameters.length) = some n) (hR : rm.frames + 1 ≤ R.frames ∧ 8 + (maxL + 11) + rm.locals ≤ R.locals) :
    vx_CVW R s args own C index y bytes maxL ret hh ws rm mc ms n := by
  obtain ⟨hC, hd⟩ := hd
  subst hC
  have ok : ∀ w ∈ wsV own index y.cls y ws, w.before args s = true := fun w h => ht w (hT w h).1
  have hG : GoodIn Ts ws := fun w h => hT w (by unfold wsV; exact List.mem_append_right _ h)
  have hc : Cond.codeWith y bytes maxL ret hh ∈ ws := by rw [hw]; exact List.mem_cons_self
  refine ⟨⟨hrc, hrs, hR.1, hR.2, pay_in ht hG, hc⟩, ht _ (hG _ hc).1, ok _ (by simp [wsV]), ⟨hd.1, hd.2.1⟩, fun sig h => ?_, ok _ (by simp [wsV]), ok _ (by simp [wsV]), ok _ (by simp [wsV])⟩
  have h2 := hd.2.2
  rw [h] at h2
  exact (Option.some.inj h2).symm
theorem vx_runVW {y : MethodName} {bytes cc : ByteArray} {maxL nL mc ms n index : Nat} {ret : Option FieldType} {hh : List (Nat × Nat × Nat × Nat)} {ws : List Cond} {rm : Room} {Pc : Array Value → State → Prop} {Qc : Array Value → State → Outcome → State → Prop} {free : Addr → Prop} {Ts : List Cond} {own C : String} {b : Addr} {As rest : List Value} {g : JFrame}
    (S : CallFix p m c cc nL s args Ts own) (hM : Met l y ws rm Pc Qc mc ms free) (cw : vx_CVW R s args own C index y bytes maxL ret hh ws rm mc ms n) (hp : PreV s H C b Pc As)
    (hg : g.method = m) (hn : As.length = n) (hsize : g.locals.size = nL) (hstack : g.stack = As.reverse ++ .ref b :: rest) (hW : 2 * g.monitorRoom + (rest.map fun v => v.category).sum ≤ 8) (hdg : decode cc g.pc = .ok (.invokevirtual index, 3)) (hf : cells + mc ≤ R.cells ∧ slots + ms ≤ R.slots) :
    va_Run p l e R s m args below meth c H locs cells slots mc ms g rest (Qc (Value.ref b :: As).toArray) free := by
  obtain ⟨⟨hrc, hrs, hfr, hlo, hws, hcw⟩, hcode, hini, hy, hlen, hl, hin, hse⟩ := cw
  have hK : Back l R p e below s args y 3 8 (PreOf R mc ms Pc) (PostOf Qc mc ms free) := va_backW (hh := hh) (bytes := bytes) (maxL := maxL) (ret := ret) hM hp.1 hrc hrs hfr hlo hws hcw (fun a' U hW => word_at hW (Or.inl (by first | rfl | simp [Cond.onTables, Cond.keeps, Cond.steady])) hini)
  obtain ⟨hx, hb, hml, ho, -⟩ := S
  obtain ⟨-, ⟨cellB, hcB, hoB, hclB⟩, hPc⟩ := hp
  intro T hT X
  obtain ⟨v, vm₁, ⟨U', l2, c2, s2⟩, hW₁, X', ⟨g', mk, t, L, e1, e2, hq, h1, hL, h2, h3⟩, st⟩ := vx_callVW X hx (C := C) (hh := hh) (bytes := bytes) (maxL := maxL) (ret := ret) ho hl hin hse hcode hy hK (by rw [hT]; exact hcB) hoB hclB hg (hsize.trans hml.symm) (argsL := As) (rest := rest) (fun sig h => hn.trans (hlen sig h)) hstack hW (by rw [hb]; exact hdg)
    (fun vm₁ hW₁ => ⟨hf.1, hf.2, hPc (T.setVm vm₁) hT hW₁⟩)
  dsimp only [Pt.U, Pt.locs, Pt.cells, Pt.slots] at X' e1 e2 h1 h2 h3 st
  subst h1; subst h2; subst h3
  exact ⟨v, (T.setVm vm₁).calling g' mk (Value.ref b :: As).toArray, t, U', L, hT, X', hL, e1, e2, hq, st⟩
section
variable {y : MethodName} {bytes cc : ByteArray} {maxL nL mc ms n index : Nat} {ret : Option FieldType} {ws : List Cond} {rm : Room} {Pc : Array Value → State → Prop} {Qc : Array Value → State → Outcome → State → Prop} {XC : String → State → State → Prop} {free : Addr → Prop} {Ts : List Cond} {own C : String} {b : Addr} {As rest : List Value} {g : JFrame}
theorem vx_runVX {hh : List (Nat × Nat × Nat × Nat)} (S : CallFix p m c cc nL s args Ts own) (hM : vx_Met l y ws rm Pc Qc XC mc ms free) (cw : vx_CVW R s args own C index y bytes maxL ret hh ws rm mc ms n) (hp : PreV s H C b Pc As)
    (hg : g.method = m) (hn : As.length = n) (hsize : g.locals.size = nL) (hstack : g.stack = As.reverse ++ .ref b :: rest) (hW : 2 * g.monitorRoom + (rest.map fun v => v.category).sum ≤ 8) (hdg : decode cc g.pc = .ok (.invokevirtual index, 3)) (hf : cells + mc ≤ R.cells ∧ slots + ms ≤ R.slots) :
    vx_Run p l e R s m args below meth c H locs cells slots mc ms g rest (Qc (Value.ref b :: As).toArray) XC free := by
  obtain ⟨⟨hrc, hrs, hfr, hlo, hws, hcw⟩, hcode, hini, hy, hlen, hl, hin, hse⟩ := cw
  have hK : vx_Back l R p e below s args y 3 8 (PreOf R mc ms Pc) (PostOf Qc mc ms free) (vx_Post XC mc ms free) := vx_backW (hh := hh) (bytes := bytes) (maxL := maxL) (ret := ret) hM hp.1 hrc hrs hfr hlo hws hcw (fun a' U hW => word_at hW (Or.inl (by first | rfl | simp [Cond.onTables, Cond.keeps, Cond.steady])) hini)
  obtain ⟨hx, hb, hml, ho, -⟩ := S
  obtain ⟨-, ⟨cellB, hcB, hoB, hclB⟩, hPc⟩ := hp
  intro T hT X
  rcases vx_callVX X hx (C := C) (hh := hh) (bytes := bytes) (maxL := maxL) (ret := ret) ho hl hin hse hcode hy hK (by rw [hT]; exact hcB) hoB hclB hg (hsize.trans hml.symm) (argsL := As) (rest := rest) (fun sig h => hn.trans (hlen sig h)) hstack hW (by rw [hb]; exact hdg)
    (fun vm₁ hW₁ => ⟨hf.1, hf.2, hPc (T.setVm vm₁) hT hW₁⟩) with ⟨v, vm₁, ⟨U', l2, c2, s2⟩, hW₁, X', ⟨g', mk, t, L, e1, e2, hq, h1, hL, h2, h3⟩, st⟩ | ⟨q, vm₁, ⟨U', l2, c2, s2⟩, hW₁, X', ⟨g', mk, t, L, E, ce, e1, e2, hq, hce, hcv, hcl, h1, hL, h2, h3⟩, st⟩
  · dsimp only [Pt.U, Pt.locs, Pt.cells, Pt.slots] at X' e1 e2 h1 h2 h3 st
    subst h1; subst h2; subst h3
    exact Or.inl ⟨v, (T.setVm vm₁).calling g' mk (Value.ref b :: As).toArray, t, U', L, hT, X', hL, e1, e2, hq, st⟩
  · dsimp only [Pt.U, Pt.locs, Pt.cells, Pt.slots] at X' e1 e2 h1 h2 h3 st hcl
    subst h1; subst h2; subst h3
    exact Or.inr ⟨q, (T.setVm vm₁).calling g' mk (Value.ref b :: As).toArray, t, U', L, E, ce, hT, X', hL, e1, e2, hq, hce, hcv, vx_cls hW₁ hcl, st⟩
theorem vx_runSX {hh : List (Nat × Nat × Nat × Nat)} (S : CallFix p m c cc nL s args Ts own) (hM : vx_Met l y ws rm Pc Qc XC mc ms free) (cw : vx_CSW R s args own index y bytes maxL ret hh ws rm mc ms n) (hp : PreS s H Pc As)
    (hg : g.method = m) (hn : As.length = n) (hsize : g.locals.size = nL) (hstack : g.stack = As.reverse ++ rest) (hW : 2 * g.monitorRoom + (rest.map fun v => v.category).sum ≤ 8) (hdg : decode cc g.pc = .ok (.invokestatic index, 3)) (hf : cells + mc ≤ R.cells ∧ slots + ms ≤ R.slots) :
    vx_Run p l e R s m args below meth c H locs cells slots mc ms g rest (Qc As.toArray) XC free := by
  obtain ⟨⟨hrc, hrs, hfr, hlo, hws, hcw⟩, hcode, hini, hy, hlen, hl, hstt⟩ := cw
  have hK : vx_Back l R p e below s args y 3 8 (PreOf R mc ms Pc) (PostOf Qc mc ms free) (vx_Post XC mc ms free) := vx_backW (hh := hh) (bytes := bytes) (maxL := maxL) (ret := ret) hM hp.1 hrc hrs hfr hlo hws hcw (fun a' U hW => word_at hW (Or.inl (by first | rfl | simp [Cond.onTables, Cond.keeps, Cond.steady])) hini)
  obtain ⟨hx, hb, hml, ho, -⟩ := S
  intro T hT X
  rcases vx_callSX X hx (hh := hh) (bytes := bytes) (maxL := maxL) (ret := ret) ho hl hstt hini hcode hy hK hg (hsize.trans hml.symm) (argsL := As) (rest := rest) (fun sig h => hn.trans (hlen sig h)) hstack hW (by rw [hb]; exact hdg)
    (fun vm₁ hW₁ => ⟨hf.1, hf.2, hp.2 (T.setVm vm₁) hT hW₁⟩) with ⟨v, vm₁, ⟨U', l2, c2, s2⟩, hW₁, X', ⟨g', mk, t, L, e1, e2, hq, h1, hL, h2, h3⟩, st⟩ | ⟨q, vm₁, ⟨U', l2, c2, s2⟩, hW₁, X', ⟨g', mk, t, L, E, ce, e1, e2, hq, hce, hcv, hcl, h1, hL, h2, h3⟩, st⟩
  · dsimp only [Pt.U, Pt.locs, Pt.cells, Pt.slots] at X' e1 e2 h1 h2 h3 st
    subst h1; subst h2; subst h3
    exact Or.inl ⟨v, (T.setVm vm₁).calling g' mk As.toArray, t, U', L, hT, X', hL, e1, e2, hq, st⟩
  · dsimp only [Pt.U, Pt.locs, Pt.cells, Pt.slots] at X' e1 e2 h1 h2 h3 st hcl
    subst h1; subst h2; subst h3
    exact Or.inr ⟨q, (T.setVm vm₁).calling g' mk As.toArray, t, U', L, E, ce, hT, X', hL, e1, e2, hq, hce, hcv, vx_cls hW₁ hcl, st⟩
end
end VXH
theorem vx_ofWH {l : Launch} {y : MethodName} {ws ws' : List Cond} {rm : Room} {Pc : Array Value → State → Prop} {Qc : Array Value → State → Outcome → State → Prop} {XC : String → State → State → Prop} {mc ms : Nat} {free : Addr → Prop} {cc : ByteArray} {maxL : Nat} {ret : Option FieldType} {hh : List (Nat × Nat × Nat × Nat)}
    (hy : plainName y.cls = true) (hw : ws = Cond.codeWith y cc maxL ret hh :: ws')
    (body : ∀ p e s m args below meth c s₁, BodyLoose p l y (headSpec ws rm) cc maxL ret e s m args below meth c s₁ → c.maxLocals = maxL → Pc args s →
      W p l e (headSpec ws rm).room s m args below meth c s.heap [] 0 0 (vx_MQ below Qc XC args s mc ms free) (entryFrame m args maxL)) : vx_Met l y ws rm Pc Qc XC mc ms free := by
  refine MetFree.of_bodyS (code := cc) (maxLocals := maxL) (ret := ret) hy ?_ ?_
  · intro args s m h hn
    obtain ⟨m9, meth, c, hn9, h1, h2, h3, h4, -, h5, h6, -⟩ := Cond.codeWith_spec (atoms_spec (ws := ws) h _ (by rw [hw]; exact List.mem_cons_self))
    cases hn.symm.trans hn9
    exact ⟨meth, c, h1, h2, h3, h4, h5, h6⟩
  · intro p e s m args below meth c s₁ B hml hP _
    have hh0 : s₁.heap = s.heap := by rw [B.state]; rfl
    obtain ⟨t, a1, o, b1, b2, b3⟩ := body p e s m args below meth c s₁ B hml hP s₁ hh0 (Stand.of_body B)
    exact ⟨t, o, a1, b1, b2, b3⟩
/-! ===== END ===== -/
end
section
/-! ===== BEGIN printed: names, fields, word lists, decode rows ===== -/
def RX0 : String := "CuckooShop$Clock"
def TX0 : u_T := fun k => match k with
  | 0 => ("CuckooShop$Clock", "gearA", "I", false)
  | 1 => ("CuckooShop$Clock", "gearB", "I", false)
  | 2 => ("CuckooShop$Clock", "swing", "I", false)
  | 3 => ("CuckooShop$Clock", "chain", "I", false)
  | 4 => ("CuckooShop$Clock", "oil", "I", false)
  | 5 => ("CuckooShop$Clock", "bellows", "I", false)
  | 6 => ("CuckooShop$Clock", "goes", "Z", false)
  | 7 => ("CuckooShop$Clock", "shown", "I", false)
  | 8 => ("CuckooShop$Clock", "rest", "I", false)
  | 9 => ("CuckooShop$Clock", "shutFrom", "I", false)
  | 10 => ("CuckooShop$Clock", "shutTill", "I", false)
  | 11 => ("CuckooShop$Clock", "calls", "I", false)
  | 12 => ("CuckooShop$Clock", "missed", "I", false)
  | _ => ("CuckooShop$Clock", "latestCalls", "I", false)
def tyX0 : Nat → FieldType := fun k => match k with
  | 0 => .int
  | 1 => .int
  | 2 => .int
  | 3 => .int
  | 4 => .int
  | 5 => .int
  | 6 => .boolean
  | 7 => .int
  | 8 => .int
  | 9 => .int
  | 10 => .int
  | 11 => .int
  | 12 => .int
  | _ => .int
abbrev wsX00 : List Cond := u_ws RX0 TX0 14
theorem nmX0 : ∀ a, a < 14 → ∀ b, b < 14 → a ≠ b → (TX0 a).2.1 ≠ (TX0 b).2.1 := by decide +kernel
theorem tyX0_ok : ∀ k, k < 14 → parseFieldDescriptor (TX0 k).2.2.1 = some (tyX0 k) := by decide +kernel
abbrev cX0_init : ByteArray := prog_2_method_1_code
def yX0_init : MethodName := ⟨RX0, "<init>", "()V"⟩
abbrev cX0_copyFrom : ByteArray := prog_2_method_2_code
def yX0_copyFrom : MethodName := ⟨RX0, "copyFrom", "(LCuckooShop$Clock;)V"⟩
abbrev cX0_putHands : ByteArray := prog_2_method_3_code
def yX0_putHands : MethodName := ⟨RX0, "putHands", "(I)V"⟩
abbrev cX0_fitTrain : ByteArray := prog_2_method_4_code
def yX0_fitTrain : MethodName := ⟨RX0, "fitTrain", "(III)V"⟩
abbrev cX0_drawUp : ByteArray := prog_2_method_5_code
def yX0_drawUp : MethodName := ⟨RX0, "drawUp", "()I"⟩
abbrev cX0_fillOil : ByteArray := prog_2_method_6_code
def yX0_fillOil : MethodName := ⟨RX0, "fillOil", "()I"⟩
abbrev cX0_patchBellows : ByteArray := prog_2_method_7_code
def yX0_patchBellows : MethodName := ⟨RX0, "patchBellows", "()I"⟩
abbrev cX0_nudge : ByteArray := prog_2_method_8_code
def yX0_nudge : MethodName := ⟨RX0, "nudge", "()I"⟩
abbrev cX0_silence : ByteArray := prog_2_method_9_code
def yX0_silence : MethodName := ⟨RX0, "silence", "(II)I"⟩
abbrev cX0_advance : ByteArray := prog_2_method_10_code
def yX0_advance : MethodName := ⟨RX0, "advance", "()I"⟩
abbrev cX0_advanceWith : ByteArray := prog_2_method_11_code
def yX0_advanceWith : MethodName := ⟨RX0, "advanceWith", "(II)I"⟩
abbrev cX0_runMinute : ByteArray := prog_2_method_13_code
def yX0_runMinute : MethodName := ⟨RX0, "runMinute", "(I)V"⟩
abbrev cX0_turn : ByteArray := prog_2_method_14_code
def yX0_turn : MethodName := ⟨RX0, "turn", "()V"⟩
abbrev cX0_wear : ByteArray := prog_2_method_15_code
def yX0_wear : MethodName := ⟨RX0, "wear", "(I)V"⟩
abbrev cX0_callsDueAt : ByteArray := prog_2_method_16_code
def yX0_callsDueAt : MethodName := ⟨RX0, "callsDueAt", "(I)I"⟩
abbrev cX0_cuckoo : ByteArray := prog_2_method_17_code
def yX0_cuckoo : MethodName := ⟨RX0, "cuckoo", "(I)V"⟩
abbrev cX0_isShutAt : ByteArray := prog_2_method_18_code
def yX0_isShutAt : MethodName := ⟨RX0, "isShutAt", "(I)Z"⟩
abbrev cX0_minutesToStand : ByteArray := prog_2_method_19_code
def yX0_minutesToStand : MethodName := ⟨RX0, "minutesToStand", "()I"⟩
abbrev cX0_reading : ByteArray := prog_2_method_20_code
def yX0_reading : MethodName := ⟨RX0, "reading", "(I)I"⟩
def RX1 : String := "CuckooShop"
def TX1 : u_T := fun k => match k with
  | 0 => ("CuckooShop", "clocks", "[LCuckooShop$Clock;", true)
  | 1 => ("CuckooShop", "copies", "[LCuckooShop$Clock;", true)
  | 2 => ("CuckooShop", "present", "I", false)
  | _ => ("CuckooShop", "minute", "I", false)
def tyX1 : Nat → FieldType := fun k => match k with
  | 0 => .array (.object "CuckooShop$Clock")
  | 1 => .array (.object "CuckooShop$Clock")
  | 2 => .int
  | _ => .int
abbrev wsX10 : List Cond := u_ws RX1 TX1 4
theorem nmX1 : ∀ a, a < 4 → ∀ b, b < 4 → a ≠ b → (TX1 a).2.1 ≠ (TX1 b).2.1 := by decide +kernel
theorem tyX1_ok : ∀ k, k < 4 → parseFieldDescriptor (TX1 k).2.2.1 = some (tyX1 k) := by decide +kernel
abbrev cX1_init : ByteArray := prog_1_method_1_code
def yX1_init : MethodName := ⟨RX1, "<init>", "()V"⟩
abbrev cX1_come : ByteArray := prog_1_method_2_code
def yX1_come : MethodName := ⟨RX1, "come", "(I)I"⟩
abbrev cX1_gear : ByteArray := prog_1_method_3_code
def yX1_gear : MethodName := ⟨RX1, "gear", "(IIII)I"⟩
abbrev cX1_set : ByteArray := prog_1_method_4_code
def yX1_set : MethodName := ⟨RX1, "set", "(II)I"⟩
abbrev cX1_wind : ByteArray := prog_1_method_5_code
def yX1_wind : MethodName := ⟨RX1, "wind", "(I)I"⟩
abbrev cX1_mend : ByteArray := prog_1_method_6_code
def yX1_mend : MethodName := ⟨RX1, "mend", "(II)I"⟩
abbrev cX1_shut : ByteArray := prog_1_method_7_code
def yX1_shut : MethodName := ⟨RX1, "shut", "(III)I"⟩
abbrev cX1_clock : ByteArray := prog_1_method_8_code
def yX1_clock : MethodName := ⟨RX1, "clock", "(II)I"⟩
abbrev cX1_off : ByteArray := prog_1_method_9_code
def yX1_off : MethodName := ⟨RX1, "off", "(I)I"⟩
abbrev cX1_count : ByteArray := prog_1_method_10_code
def yX1_count : MethodName := ⟨RX1, "count", "(I)I"⟩
abbrev cX1_pass : ByteArray := prog_1_method_11_code
def yX1_pass : MethodName := ⟨RX1, "pass", "(I)I"⟩
abbrev cX1_next : ByteArray := prog_1_method_12_code
def yX1_next : MethodName := ⟨RX1, "next", "(I)I"⟩
abbrev cX1_stands : ByteArray := prog_1_method_13_code
def yX1_stands : MethodName := ⟨RX1, "stands", "(I)I"⟩
abbrev cX1_foresee : ByteArray := prog_1_method_15_code
def yX1_foresee : MethodName := ⟨RX1, "foresee", "(II)I"⟩
abbrev cX1_mean : ByteArray := prog_1_method_17_code
def yX1_mean : MethodName := ⟨RX1, "mean", "()D"⟩
abbrev cX1_checkClock : ByteArray := prog_1_method_19_code
def yX1_checkClock : MethodName := ⟨RX1, "checkClock", "(I)V"⟩
abbrev cX1_checkTime : ByteArray := prog_1_method_20_code
def yX1_checkTime : MethodName := ⟨RX1, "checkTime", "(I)V"⟩
abbrev cX1_checkMinutes : ByteArray := prog_1_method_21_code
def yX1_checkMinutes : MethodName := ⟨RX1, "checkMinutes", "(I)V"⟩
abbrev cX1_isWithin : ByteArray := prog_1_method_22_code
def yX1_isWithin : MethodName := ⟨RX1, "isWithin", "(III)Z"⟩
abbrev cX1_trueTime : ByteArray := prog_1_method_23_code
def yX1_trueTime : MethodName := ⟨RX1, "trueTime", "(I)I"⟩
abbrev cX1_offOf : ByteArray := prog_1_method_24_code
def yX1_offOf : MethodName := ⟨RX1, "offOf", "(LCuckooShop$Clock;I)I"⟩
abbrev cX1_runRow : ByteArray := prog_1_method_25_code
def yX1_runRow : MethodName := ⟨RX1, "runRow", "([LCuckooShop$Clock;I)I"⟩
abbrev cX1_copyClocks : ByteArray := prog_1_method_26_code
def yX1_copyClocks : MethodName := ⟨RX1, "copyClocks", "()V"⟩
abbrev cX1_tally : ByteArray := prog_1_method_27_code
def yX1_tally : MethodName := ⟨RX1, "tally", "(I)I"⟩
abbrev cX1_sumOf : ByteArray := prog_1_method_28_code
def yX1_sumOf : MethodName := ⟨RX1, "sumOf", "([LCuckooShop$Clock;I)I"⟩
abbrev cX1_offOfAll : ByteArray := prog_1_method_29_code
def yX1_offOfAll : MethodName := ⟨RX1, "offOfAll", "([LCuckooShop$Clock;I)I"⟩
abbrev cX1_trueClocks : ByteArray := prog_1_method_30_code
def yX1_trueClocks : MethodName := ⟨RX1, "trueClocks", "()I"⟩
def RX2 : String := "CuckooShopLaw$Clock"
def TX2 : u_T := fun k => match k with
  | 0 => ("CuckooShopLaw$Clock", "a", "I", false)
  | 1 => ("CuckooShopLaw$Clock", "b", "I", false)
  | 2 => ("CuckooShopLaw$Clock", "swing", "I", false)
  | 3 => ("CuckooShopLaw$Clock", "shows", "I", false)
  | 4 => ("CuckooShopLaw$Clock", "rest", "I", false)
  | 5 => ("CuckooShopLaw$Clock", "chain", "I", false)
  | 6 => ("CuckooShopLaw$Clock", "oil", "I", false)
  | 7 => ("CuckooShopLaw$Clock", "bellows", "I", false)
  | 8 => ("CuckooShopLaw$Clock", "goes", "Z", false)
  | 9 => ("CuckooShopLaw$Clock", "calls", "I", false)
  | 10 => ("CuckooShopLaw$Clock", "missed", "I", false)
  | 11 => ("CuckooShopLaw$Clock", "latest", "I", false)
  | 12 => ("CuckooShopLaw$Clock", "from", "I", false)
  | _ => ("CuckooShopLaw$Clock", "till", "I", false)
def tyX2 : Nat → FieldType := fun k => match k with
  | 0 => .int
  | 1 => .int
  | 2 => .int
  | 3 => .int
  | 4 => .int
  | 5 => .int
  | 6 => .int
  | 7 => .int
  | 8 => .boolean
  | 9 => .int
  | 10 => .int
  | 11 => .int
  | 12 => .int
  | _ => .int
abbrev wsX20 : List Cond := u_ws RX2 TX2 14
theorem nmX2 : ∀ a, a < 14 → ∀ b, b < 14 → a ≠ b → (TX2 a).2.1 ≠ (TX2 b).2.1 := by decide +kernel
theorem tyX2_ok : ∀ k, k < 14 → parseFieldDescriptor (TX2 k).2.2.1 = some (tyX2 k) := by decide +kernel
abbrev cX2_init : ByteArray := prog_4_method_1_code
def yX2_init : MethodName := ⟨RX2, "<init>", "()V"⟩
abbrev cX2_advance : ByteArray := prog_4_method_3_code
def yX2_advance : MethodName := ⟨RX2, "advance", "(II)I"⟩
abbrev cX2_isShut : ByteArray := prog_4_method_4_code
def yX2_isShut : MethodName := ⟨RX2, "isShut", "(I)Z"⟩
abbrev cX2_pass : ByteArray := prog_4_method_5_code
def yX2_pass : MethodName := ⟨RX2, "pass", "(I)V"⟩
abbrev cX2_off : ByteArray := prog_4_method_6_code
def yX2_off : MethodName := ⟨RX2, "off", "(I)I"⟩
def RX3 : String := "CuckooShopLaw$Sim"
def TX3 : u_T := fun k => match k with
  | 0 => ("CuckooShopLaw$Sim", "clocks", "[LCuckooShopLaw$Clock;", false)
  | _ => ("CuckooShopLaw$Sim", "minute", "I", false)
def tyX3 : Nat → FieldType := fun k => match k with
  | 0 => .array (.object "CuckooShopLaw$Clock")
  | _ => .int
abbrev wsX30 : List Cond := u_ws RX3 TX3 2
theorem nmX3 : ∀ a, a < 2 → ∀ b, b < 2 → a ≠ b → (TX3 a).2.1 ≠ (TX3 b).2.1 := by decide +kernel
theorem tyX3_ok : ∀ k, k < 2 → parseFieldDescriptor (TX3 k).2.2.1 = some (tyX3 k) := by decide +kernel
abbrev cX3_init : ByteArray := prog_5_method_1_code
def yX3_init : MethodName := ⟨RX3, "<init>", "()V"⟩
abbrev cX3_come : ByteArray := prog_5_method_3_code
def yX3_come : MethodName := ⟨RX3, "come", "(I)LCuckooShopLaw$Clock;"⟩
abbrev cX3_pass : ByteArray := prog_5_method_4_code
def yX3_pass : MethodName := ⟨RX3, "pass", "()I"⟩
abbrev cX3_go : ByteArray := prog_5_method_6_code
def yX3_go : MethodName := ⟨RX3, "go", "()I"⟩
abbrev cX3_off : ByteArray := prog_5_method_7_code
def yX3_off : MethodName := ⟨RX3, "off", "()I"⟩
abbrev cX3_isSame : ByteArray := prog_5_method_8_code
def yX3_isSame : MethodName := ⟨RX3, "isSame", "(LCuckooShop;)Z"⟩
def RX4 : String := "CuckooShopModel"
def TX4 : u_T := fun k => match k with
  | _ => ("", "", "", false)
def tyX4 : Nat → FieldType := fun k => match k with
  | _ => .int
abbrev wsX40 : List Cond := u_ws RX4 TX4 0
theorem nmX4 : ∀ a, a < 0 → ∀ b, b < 0 → a ≠ b → (TX4 a).2.1 ≠ (TX4 b).2.1 := by decide +kernel
theorem tyX4_ok : ∀ k, k < 0 → parseFieldDescriptor (TX4 k).2.2.1 = some (tyX4 k) := by decide +kernel
def RJ9 : String := "java/lang/Math"
def TJ9 : u_T := fun k => match k with
  | _ => ("", "", "", false)
def tyJ9 : Nat → FieldType := fun k => match k with
  | _ => .int
abbrev wsJ90 : List Cond := u_ws RJ9 TJ9 0
theorem nmJ9 : ∀ a, a < 0 → ∀ b, b < 0 → a ≠ b → (TJ9 a).2.1 ≠ (TJ9 b).2.1 := by decide +kernel
theorem tyJ9_ok : ∀ k, k < 0 → parseFieldDescriptor (TJ9 k).2.2.1 = some (tyJ9 k) := by decide +kernel
abbrev cJ9_floorMod_7cf53 : ByteArray := prog_11_method_50_code
def yJ9_floorMod_7cf53 : MethodName := ⟨RJ9, "floorMod", "(II)I"⟩
abbrev cJ9_abs_0f7a4 : ByteArray := prog_11_method_59_code
def yJ9_abs_0f7a4 : MethodName := ⟨RJ9, "abs", "(I)I"⟩
abbrev cJ9_max_7cf53 : ByteArray := prog_11_method_65_code
def yJ9_max_7cf53 : MethodName := ⟨RJ9, "max", "(II)I"⟩
abbrev cJ9_min_7cf53 : ByteArray := prog_11_method_69_code
def yJ9_min_7cf53 : MethodName := ⟨RJ9, "min", "(II)I"⟩
def RJ0 : String := "java/lang/String"
def TJ0 : u_T := fun k => match k with
  | _ => ("", "", "", false)
def tyJ0 : Nat → FieldType := fun k => match k with
  | _ => .int
abbrev wsJ00 : List Cond := u_ws RJ0 TJ0 0
theorem nmJ0 : ∀ a, a < 0 → ∀ b, b < 0 → a ≠ b → (TJ0 a).2.1 ≠ (TJ0 b).2.1 := by decide +kernel
theorem tyJ0_ok : ∀ k, k < 0 → parseFieldDescriptor (TJ0 k).2.2.1 = some (tyJ0 k) := by decide +kernel
def RL : String := "CuckooShopLaw"
abbrev cL_below : ByteArray := method_2_code
def yL_below : MethodName := ⟨RL, "below", "(II)I"⟩
abbrev cL_cell : ByteArray := method_3_code
def yL_cell : MethodName := ⟨RL, "cell", "([II)I"⟩
abbrev cL_act : ByteArray := method_4_code
def yL_act : MethodName := ⟨RL, "act", "(LCuckooShop;LCuckooShopLaw$Sim;I)Z"⟩
abbrev cL_build : ByteArray := method_5_code
def yL_build : MethodName := ⟨RL, "build", "(LCuckooShop;[I)LCuckooShopLaw$Sim;"⟩
abbrev cL_law : ByteArray := code
def yL_law : MethodName := ⟨RL, "law", "([I)Z"⟩
def wsX0_init : List Cond := .code yX0_init cX0_init 1 none :: ([.methodLink RX0 3 objectInit, .instanceMethod objectInit, .code objectInit ⟨#[0xb1]⟩ 1 none, .fieldLink RX0 9 "CuckooShop$Clock" "gearA" "I", .fieldLink RX0 15 "CuckooShop$Clock" "gearB" "I", .fieldLink RX0 18 "CuckooShop$Clock" "swing" "I", .fieldLink RX0 21 "CuckooShop$Clock" "chain" "I", .fieldLink RX0 24 "CuckooShop$Clock" "oil" "I", .fieldLink RX0 27 "CuckooShop$Clock" "bellows" "I", .fieldLink RX0 30 "CuckooShop$Clock" "goes" "Z", .fieldLink RX0 34 "CuckooShop$Clock" "shown" "I", .fieldLink RX0 37 "CuckooShop$Clock" "rest" "I", .fieldLink RX0 40 "CuckooShop$Clock" "shutFrom" "I", .fieldLink RX0 43 "CuckooShop$Clock" "shutTill" "I", .fieldLink RX0 46 "CuckooShop$Clock" "calls" "I", .fieldLink RX0 49 "CuckooShop$Clock" "missed" "I", .fieldLink RX0 52 "CuckooShop$Clock" "latestCalls" "I"] ++ wsX00)
def wsX0_copyFrom : List Cond := .code yX0_copyFrom cX0_copyFrom 2 none :: ([.fieldLink RX0 9 "CuckooShop$Clock" "gearA" "I", .fieldLink RX0 15 "CuckooShop$Clock" "gearB" "I", .fieldLink RX0 18 "CuckooShop$Clock" "swing" "I", .fieldLink RX0 21 "CuckooShop$Clock" "chain" "I", .fieldLink RX0 24 "CuckooShop$Clock" "oil" "I", .fieldLink RX0 27 "CuckooShop$Clock" "bellows" "I", .fieldLink RX0 30 "CuckooShop$Clock" "goes" "Z", .fieldLink RX0 34 "CuckooShop$Clock" "shown" "I", .fieldLink RX0 37 "CuckooShop$Clock" "rest" "I", .fieldLink RX0 40 "CuckooShop$Clock" "shutFrom" "I", .fieldLink RX0 43 "CuckooShop$Clock" "shutTill" "I", .fieldLink RX0 46 "CuckooShop$Clock" "calls" "I", .fieldLink RX0 49 "CuckooShop$Clock" "missed" "I", .fieldLink RX0 52 "CuckooShop$Clock" "latestCalls" "I"] ++ wsX00)
def wsX0_putHands : List Cond := .code yX0_putHands cX0_putHands 2 none :: ([.fieldLink RX0 34 "CuckooShop$Clock" "shown" "I", .fieldLink RX0 37 "CuckooShop$Clock" "rest" "I"] ++ wsX00)
def wsX0_fitTrain : List Cond := .code yX0_fitTrain cX0_fitTrain 4 none :: ([.fieldLink RX0 9 "CuckooShop$Clock" "gearA" "I", .fieldLink RX0 15 "CuckooShop$Clock" "gearB" "I", .fieldLink RX0 18 "CuckooShop$Clock" "swing" "I"] ++ wsX00)
def wsX0_drawUp : List Cond := .code yX0_drawUp cX0_drawUp 2 (some .int) :: ([.fieldLink RX0 21 "CuckooShop$Clock" "chain" "I", .fieldLink RX0 30 "CuckooShop$Clock" "goes" "Z"] ++ wsX00)
def wsX0_fillOil : List Cond := .code yX0_fillOil cX0_fillOil 2 (some .int) :: ([.fieldLink RX0 24 "CuckooShop$Clock" "oil" "I"] ++ wsX00)
def wsX0_patchBellows : List Cond := .code yX0_patchBellows cX0_patchBellows 2 (some .int) :: ([.fieldLink RX0 27 "CuckooShop$Clock" "bellows" "I"] ++ wsX00)
def wsX0_nudge : List Cond := .code yX0_nudge cX0_nudge 1 (some .int) :: ([.fieldLink RX0 30 "CuckooShop$Clock" "goes" "Z", .fieldLink RX0 21 "CuckooShop$Clock" "chain" "I"] ++ wsX00)
def wsX0_silence : List Cond := .code yX0_silence cX0_silence 4 (some .int) :: ([.fieldLink RX0 40 "CuckooShop$Clock" "shutFrom" "I", .fieldLink RX0 43 "CuckooShop$Clock" "shutTill" "I"] ++ wsX00)
def wsX0_advanceWith : List Cond := .code yX0_advanceWith cX0_advanceWith 4 (some .int) :: ([.fieldLink RX0 18 "CuckooShop$Clock" "swing" "I", .fieldLink RX0 24 "CuckooShop$Clock" "oil" "I"] ++ wsX00)
def wsX0_advance : List Cond := .code yX0_advance cX0_advance 1 (some .int) :: ([.fieldLink RX0 9 "CuckooShop$Clock" "gearA" "I", .fieldLink RX0 15 "CuckooShop$Clock" "gearB" "I", .methodLink RX0 55 yX0_advanceWith, .instanceMethod yX0_advanceWith, .selects RX0 yX0_advanceWith yX0_advanceWith, .initialized RX0, .code yX0_advanceWith cX0_advanceWith 4 (some .int), .fieldLink RX0 18 "CuckooShop$Clock" "swing" "I", .fieldLink RX0 24 "CuckooShop$Clock" "oil" "I"] ++ wsX00)
def wsX0_isShutAt : List Cond := .code yX0_isShutAt cX0_isShutAt 2 (some .boolean) :: ([.fieldLink RX0 40 "CuckooShop$Clock" "shutFrom" "I", .fieldLink RX0 43 "CuckooShop$Clock" "shutTill" "I"] ++ wsX00)
def wsX0_callsDueAt : List Cond := .code yX0_callsDueAt cX0_callsDueAt 1 (some .int) :: ([])
def wsX0_cuckoo : List Cond := .code yX0_cuckoo cX0_cuckoo 3 none :: ([.fieldLink RX0 27 "CuckooShop$Clock" "bellows" "I", .methodLink RX0 87 Lib.Math.min.name, .static Lib.Math.min.name, .initialized "java/lang/Math", .code Lib.Math.min.name Lib.Math.min.code 2 (some .int), .fieldLink RX0 46 "CuckooShop$Clock" "calls" "I", .fieldLink RX0 52 "CuckooShop$Clock" "latestCalls" "I", .fieldLink RX0 49 "CuckooShop$Clock" "missed" "I"] ++ wsX00)
def wsX0_turn_r1 : List Cond := [Cond.fieldLink RX0 37 "CuckooShop$Clock" "rest" "I", Cond.fieldLink RX0 34 "CuckooShop$Clock" "shown" "I", Cond.methodLink RX0 73 yX0_advance, Cond.instanceMethod yX0_advance, Cond.selects RX0 yX0_advance yX0_advance, Cond.initialized RX0, Cond.code yX0_advance cX0_advance 1 (some .int), Cond.fieldLink RX0 9 "CuckooShop$Clock" "gearA" "I", Cond.fieldLink RX0 15 "CuckooShop$Clock" "gearB" "I", Cond.methodLink RX0 55 yX0_advanceWith, Cond.instanceMethod yX0_advanceWith, Cond.selects RX0 yX0_advanceWith yX0_advanceWith, Cond.code yX0_advanceWith cX0_advanceWith 4 (some .int), Cond.fieldLink RX0 18 "CuckooShop$Clock" "swing" "I", Cond.fieldLink RX0 24 "CuckooShop$Clock" "oil" "I", Cond.methodLink RX0 77 yX0_isShutAt, Cond.instanceMethod yX0_isShutAt, Cond.selects RX0 yX0_isShutAt yX0_isShutAt, Cond.code yX0_isShutAt cX0_isShutAt 2 (some .boolean), Cond.fieldLink RX0 40 "CuckooShop$Clock" "shutFrom" "I", Cond.fieldLink RX0 43 "CuckooShop$Clock" "shutTill" "I", Cond.methodLink RX0 81 yX0_callsDueAt, Cond.static yX0_callsDueAt, Cond.code yX0_callsDueAt cX0_callsDueAt 1 (some .int)]
def wsX0_turn_r2 : List Cond := [Cond.methodLink RX0 84 yX0_cuckoo, Cond.instanceMethod yX0_cuckoo, Cond.selects RX0 yX0_cuckoo yX0_cuckoo, Cond.code yX0_cuckoo cX0_cuckoo 3 none, Cond.fieldLink RX0 27 "CuckooShop$Clock" "bellows" "I", Cond.methodLink RX0 87 Lib.Math.min.name, Cond.static Lib.Math.min.name, Cond.initialized "java/lang/Math", Cond.code Lib.Math.min.name Lib.Math.min.code 2 (some .int), Cond.fieldLink RX0 46 "CuckooShop$Clock" "calls" "I", Cond.fieldLink RX0 52 "CuckooShop$Clock" "latestCalls" "I", Cond.fieldLink RX0 49 "CuckooShop$Clock" "missed" "I"]
def wsX0_turn : List Cond := .code yX0_turn cX0_turn 3 none :: ((wsX0_turn_r1 ++ wsX0_turn_r2) ++ wsX00)
def wsX0_wear : List Cond := .code yX0_wear cX0_wear 2 none :: ([.fieldLink RX0 21 "CuckooShop$Clock" "chain" "I", .fieldLink RX0 24 "CuckooShop$Clock" "oil" "I", .fieldLink RX0 30 "CuckooShop$Clock" "goes" "Z"] ++ wsX00)
def wsX0_runMinute_r1 : List Cond := [Cond.fieldLink RX0 52 "CuckooShop$Clock" "latestCalls" "I", Cond.fieldLink RX0 30 "CuckooShop$Clock" "goes" "Z", Cond.methodLink RX0 66 yX0_turn, Cond.instanceMethod yX0_turn, Cond.selects RX0 yX0_turn yX0_turn, Cond.initialized RX0, Cond.code yX0_turn cX0_turn 3 none, Cond.fieldLink RX0 37 "CuckooShop$Clock" "rest" "I", Cond.fieldLink RX0 34 "CuckooShop$Clock" "shown" "I", Cond.methodLink RX0 73 yX0_advance, Cond.instanceMethod yX0_advance, Cond.selects RX0 yX0_advance yX0_advance, Cond.code yX0_advance cX0_advance 1 (some .int), Cond.fieldLink RX0 9 "CuckooShop$Clock" "gearA" "I", Cond.fieldLink RX0 15 "CuckooShop$Clock" "gearB" "I", Cond.methodLink RX0 55 yX0_advanceWith, Cond.instanceMethod yX0_advanceWith, Cond.selects RX0 yX0_advanceWith yX0_advanceWith, Cond.code yX0_advanceWith cX0_advanceWith 4 (some .int), Cond.fieldLink RX0 18 "CuckooShop$Clock" "swing" "I", Cond.fieldLink RX0 24 "CuckooShop$Clock" "oil" "I", Cond.methodLink RX0 77 yX0_isShutAt, Cond.instanceMethod yX0_isShutAt, Cond.selects RX0 yX0_isShutAt yX0_isShutAt]
def wsX0_runMinute_r2 : List Cond := [Cond.code yX0_isShutAt cX0_isShutAt 2 (some .boolean), Cond.fieldLink RX0 40 "CuckooShop$Clock" "shutFrom" "I", Cond.fieldLink RX0 43 "CuckooShop$Clock" "shutTill" "I", Cond.methodLink RX0 81 yX0_callsDueAt, Cond.static yX0_callsDueAt, Cond.code yX0_callsDueAt cX0_callsDueAt 1 (some .int), Cond.methodLink RX0 84 yX0_cuckoo, Cond.instanceMethod yX0_cuckoo, Cond.selects RX0 yX0_cuckoo yX0_cuckoo, Cond.code yX0_cuckoo cX0_cuckoo 3 none, Cond.fieldLink RX0 27 "CuckooShop$Clock" "bellows" "I", Cond.methodLink RX0 87 Lib.Math.min.name, Cond.static Lib.Math.min.name, Cond.initialized "java/lang/Math", Cond.code Lib.Math.min.name Lib.Math.min.code 2 (some .int), Cond.fieldLink RX0 46 "CuckooShop$Clock" "calls" "I", Cond.fieldLink RX0 49 "CuckooShop$Clock" "missed" "I", Cond.methodLink RX0 69 yX0_wear, Cond.instanceMethod yX0_wear, Cond.selects RX0 yX0_wear yX0_wear, Cond.code yX0_wear cX0_wear 2 none, Cond.fieldLink RX0 21 "CuckooShop$Clock" "chain" "I"]
def wsX0_runMinute : List Cond := .code yX0_runMinute cX0_runMinute 2 none :: ((wsX0_runMinute_r1 ++ wsX0_runMinute_r2) ++ wsX00)
def wsX0_minutesToStand : List Cond := .code yX0_minutesToStand cX0_minutesToStand 1 (some .int) :: ([.fieldLink RX0 30 "CuckooShop$Clock" "goes" "Z", .fieldLink RX0 21 "CuckooShop$Clock" "chain" "I"] ++ wsX00)
def wsX0_reading_r1 : List Cond := [Cond.fieldLink RX0 34 "CuckooShop$Clock" "shown" "I", Cond.fieldLink RX0 37 "CuckooShop$Clock" "rest" "I", Cond.fieldLink RX0 21 "CuckooShop$Clock" "chain" "I", Cond.fieldLink RX0 24 "CuckooShop$Clock" "oil" "I", Cond.fieldLink RX0 27 "CuckooShop$Clock" "bellows" "I", Cond.fieldLink RX0 30 "CuckooShop$Clock" "goes" "Z", Cond.fieldLink RX0 46 "CuckooShop$Clock" "calls" "I", Cond.fieldLink RX0 49 "CuckooShop$Clock" "missed" "I", Cond.fieldLink RX0 52 "CuckooShop$Clock" "latestCalls" "I", Cond.methodLink RX0 73 yX0_advance, Cond.instanceMethod yX0_advance, Cond.selects RX0 yX0_advance yX0_advance, Cond.initialized RX0, Cond.code yX0_advance cX0_advance 1 (some .int), Cond.fieldLink RX0 9 "CuckooShop$Clock" "gearA" "I", Cond.fieldLink RX0 15 "CuckooShop$Clock" "gearB" "I", Cond.methodLink RX0 55 yX0_advanceWith, Cond.instanceMethod yX0_advanceWith, Cond.selects RX0 yX0_advanceWith yX0_advanceWith, Cond.code yX0_advanceWith cX0_advanceWith 4 (some .int), Cond.fieldLink RX0 18 "CuckooShop$Clock" "swing" "I", Cond.methodLink RX0 77 yX0_isShutAt, Cond.instanceMethod yX0_isShutAt, Cond.selects RX0 yX0_isShutAt yX0_isShutAt]
def wsX0_reading_r2 : List Cond := [Cond.code yX0_isShutAt cX0_isShutAt 2 (some .boolean), Cond.fieldLink RX0 40 "CuckooShop$Clock" "shutFrom" "I", Cond.fieldLink RX0 43 "CuckooShop$Clock" "shutTill" "I"]
def wsX0_reading : List Cond := .code yX0_reading cX0_reading 2 (some .int) :: ((wsX0_reading_r1 ++ wsX0_reading_r2) ++ wsX00)
def wsX1_init_r1 : List Cond := [Cond.methodLink RX1 1 objectInit, Cond.instanceMethod objectInit, Cond.code objectInit ⟨#[0xb1]⟩ 1 none, Cond.classLink RX1 9 RX0, Cond.fieldLink RX1 11 "CuckooShop" "clocks" "[LCuckooShop$Clock;", Cond.fieldLink RX1 15 "CuckooShop" "copies" "[LCuckooShop$Clock;", Cond.instantiable RX0 14, Cond.initialized RX0, Cond.fieldLink RX1 19 "CuckooShop" "present" "I", Cond.fieldLink RX1 23 "CuckooShop" "minute" "I", Cond.instanceMethod yX0_init, Cond.code yX0_init cX0_init 1 none, Cond.methodLink RX0 3 objectInit, Cond.fieldLink RX0 9 "CuckooShop$Clock" "gearA" "I", Cond.fieldLink RX0 15 "CuckooShop$Clock" "gearB" "I", Cond.fieldLink RX0 18 "CuckooShop$Clock" "swing" "I", Cond.fieldLink RX0 21 "CuckooShop$Clock" "chain" "I", Cond.fieldLink RX0 24 "CuckooShop$Clock" "oil" "I", Cond.fieldLink RX0 27 "CuckooShop$Clock" "bellows" "I", Cond.fieldLink RX0 30 "CuckooShop$Clock" "goes" "Z", Cond.fieldLink RX0 34 "CuckooShop$Clock" "shown" "I", Cond.fieldLink RX0 37 "CuckooShop$Clock" "rest" "I", Cond.fieldLink RX0 40 "CuckooShop$Clock" "shutFrom" "I", Cond.fieldLink RX0 43 "CuckooShop$Clock" "shutTill" "I"]
def wsX1_init_r2 : List Cond := [Cond.fieldLink RX0 46 "CuckooShop$Clock" "calls" "I", Cond.fieldLink RX0 49 "CuckooShop$Clock" "missed" "I", Cond.fieldLink RX0 52 "CuckooShop$Clock" "latestCalls" "I"]
def wsX1_init : List Cond := .code yX1_init cX1_init 2 none :: ((wsX1_init_r1 ++ wsX1_init_r2) ++ wsX10 ++ wsX00)
def wsX1_isWithin : List Cond := .code yX1_isWithin cX1_isWithin 3 (some .boolean) :: ([])
def wsX1_checkTime : List Cond := .code yX1_checkTime cX1_checkTime 1 none :: ([.classLink RX1 47 "java/lang/IllegalArgumentException", .initialized "java/lang/IllegalArgumentException", .methodLink RX1 43 yX1_isWithin, .static yX1_isWithin, .initialized RX1, .code yX1_isWithin cX1_isWithin 3 (some .boolean)] ++ (vx_atS RX1 51 "java/lang/IllegalArgumentException" ["java/lang/RuntimeException", "java/lang/Exception"]).filter goodWord)
def wsX1_come : List Cond := .code yX1_come cX1_come 2 (some .int) :: ([.classLink RX1 30 "java/lang/IllegalStateException", .initialized "java/lang/IllegalStateException", .fieldLink RX1 19 "CuckooShop" "present" "I", .fieldLink RX1 11 "CuckooShop" "clocks" "[LCuckooShop$Clock;", .methodLink RX1 26 yX1_checkTime, .static yX1_checkTime, .initialized RX1, .code yX1_checkTime cX1_checkTime 1 none, .classLink RX1 47 "java/lang/IllegalArgumentException", .initialized "java/lang/IllegalArgumentException", .methodLink RX1 43 yX1_isWithin, .static yX1_isWithin, .code yX1_isWithin cX1_isWithin 3 (some .boolean), .instanceMethod yX0_putHands, .initialized RX0, .selects RX0 yX0_putHands yX0_putHands, .code yX0_putHands cX0_putHands 2 none, .fieldLink RX0 34 "CuckooShop$Clock" "shown" "I", .fieldLink RX0 37 "CuckooShop$Clock" "rest" "I"] ++ wsX10 ++ wsX00 ++ (vx_atS RX1 34 "java/lang/IllegalStateException" ["java/lang/RuntimeException", "java/lang/Exception"]).filter goodWord ++ (vx_atS RX1 51 "java/lang/IllegalArgumentException" ["java/lang/RuntimeException", "java/lang/Exception"]).filter goodWord)
def wsX1_checkClock : List Cond := .code yX1_checkClock cX1_checkClock 2 none :: ([.classLink RX1 86 "java/lang/IndexOutOfBoundsException", .initialized "java/lang/IndexOutOfBoundsException", .fieldLink RX1 19 "CuckooShop" "present" "I"] ++ wsX10 ++ (vx_atS RX1 90 "java/lang/IndexOutOfBoundsException" ["java/lang/RuntimeException", "java/lang/Exception"]).filter goodWord)
def wsX1_gear_r1 : List Cond := [Cond.classLink RX1 47 "java/lang/IllegalArgumentException", Cond.initialized "java/lang/IllegalArgumentException", Cond.fieldLink RX1 11 "CuckooShop" "clocks" "[LCuckooShop$Clock;", Cond.methodLink RX1 40 yX1_checkClock, Cond.instanceMethod yX1_checkClock, Cond.selects RX1 yX1_checkClock yX1_checkClock, Cond.initialized RX1, Cond.code yX1_checkClock cX1_checkClock 2 none, Cond.classLink RX1 86 "java/lang/IndexOutOfBoundsException", Cond.initialized "java/lang/IndexOutOfBoundsException", Cond.fieldLink RX1 19 "CuckooShop" "present" "I", Cond.methodLink RX1 43 yX1_isWithin, Cond.static yX1_isWithin, Cond.code yX1_isWithin cX1_isWithin 3 (some .boolean), Cond.instanceMethod yX0_fitTrain, Cond.initialized RX0, Cond.selects RX0 yX0_fitTrain yX0_fitTrain, Cond.code yX0_fitTrain cX0_fitTrain 4 none, Cond.fieldLink RX0 9 "CuckooShop$Clock" "gearA" "I", Cond.fieldLink RX0 15 "CuckooShop$Clock" "gearB" "I", Cond.fieldLink RX0 18 "CuckooShop$Clock" "swing" "I", Cond.instanceMethod yX0_advance, Cond.selects RX0 yX0_advance yX0_advance, Cond.code yX0_advance cX0_advance 1 (some .int)]
def wsX1_gear_r2 : List Cond := [Cond.methodLink RX0 55 yX0_advanceWith, Cond.instanceMethod yX0_advanceWith, Cond.selects RX0 yX0_advanceWith yX0_advanceWith, Cond.code yX0_advanceWith cX0_advanceWith 4 (some .int), Cond.fieldLink RX0 24 "CuckooShop$Clock" "oil" "I"]
def wsX1_gear : List Cond := .code yX1_gear cX1_gear 5 (some .int) :: ((wsX1_gear_r1 ++ wsX1_gear_r2) ++ wsX10 ++ wsX00 ++ (vx_atS RX1 51 "java/lang/IllegalArgumentException" ["java/lang/RuntimeException", "java/lang/Exception"]).filter goodWord ++ (vx_atS RX1 90 "java/lang/IndexOutOfBoundsException" ["java/lang/RuntimeException", "java/lang/Exception"]).filter goodWord)
def wsJ9_floorMod_7cf53 : List Cond := .code yJ9_floorMod_7cf53 cJ9_floorMod_7cf53 3 (some .int) :: ([])
def wsX1_trueTime : List Cond := .code yX1_trueTime cX1_trueTime 1 (some .int) :: ([.methodLink RX1 152 yJ9_floorMod_7cf53, .static yJ9_floorMod_7cf53, .initialized RJ9, .code yJ9_floorMod_7cf53 cJ9_floorMod_7cf53 3 (some .int)])
def wsX1_offOf : List Cond := .code yX1_offOf cX1_offOf 3 (some .int) :: ([.methodLink RX1 160 yX1_trueTime, .static yX1_trueTime, .initialized RX1, .code yX1_trueTime cX1_trueTime 1 (some .int), .methodLink RX1 152 yJ9_floorMod_7cf53, .static yJ9_floorMod_7cf53, .initialized RJ9, .code yJ9_floorMod_7cf53 cJ9_floorMod_7cf53 3 (some .int)] ++ wsX00)
def wsX1_set_r1 : List Cond := [Cond.fieldLink RX1 11 "CuckooShop" "clocks" "[LCuckooShop$Clock;", Cond.fieldLink RX1 23 "CuckooShop" "minute" "I", Cond.methodLink RX1 40 yX1_checkClock, Cond.instanceMethod yX1_checkClock, Cond.selects RX1 yX1_checkClock yX1_checkClock, Cond.initialized RX1, Cond.code yX1_checkClock cX1_checkClock 2 none, Cond.classLink RX1 86 "java/lang/IndexOutOfBoundsException", Cond.initialized "java/lang/IndexOutOfBoundsException", Cond.fieldLink RX1 19 "CuckooShop" "present" "I", Cond.methodLink RX1 26 yX1_checkTime, Cond.static yX1_checkTime, Cond.code yX1_checkTime cX1_checkTime 1 none, Cond.classLink RX1 47 "java/lang/IllegalArgumentException", Cond.initialized "java/lang/IllegalArgumentException", Cond.methodLink RX1 43 yX1_isWithin, Cond.static yX1_isWithin, Cond.code yX1_isWithin cX1_isWithin 3 (some .boolean), Cond.methodLink RX1 62 yX1_offOf, Cond.static yX1_offOf, Cond.code yX1_offOf cX1_offOf 3 (some .int), Cond.methodLink RX1 160 yX1_trueTime, Cond.static yX1_trueTime, Cond.code yX1_trueTime cX1_trueTime 1 (some .int)]
def wsX1_set_r2 : List Cond := [Cond.methodLink RX1 152 yJ9_floorMod_7cf53, Cond.static yJ9_floorMod_7cf53, Cond.initialized RJ9, Cond.code yJ9_floorMod_7cf53 cJ9_floorMod_7cf53 3 (some .int), Cond.instanceMethod yX0_putHands, Cond.initialized RX0, Cond.selects RX0 yX0_putHands yX0_putHands, Cond.code yX0_putHands cX0_putHands 2 none, Cond.fieldLink RX0 34 "CuckooShop$Clock" "shown" "I", Cond.fieldLink RX0 37 "CuckooShop$Clock" "rest" "I"]
def wsX1_set : List Cond := .code yX1_set cX1_set 4 (some .int) :: ((wsX1_set_r1 ++ wsX1_set_r2) ++ wsX10 ++ wsX00 ++ (vx_atS RX1 90 "java/lang/IndexOutOfBoundsException" ["java/lang/RuntimeException", "java/lang/Exception"]).filter goodWord ++ (vx_atS RX1 51 "java/lang/IllegalArgumentException" ["java/lang/RuntimeException", "java/lang/Exception"]).filter goodWord)
def wsX1_wind : List Cond := .code yX1_wind cX1_wind 2 (some .int) :: ([.fieldLink RX1 11 "CuckooShop" "clocks" "[LCuckooShop$Clock;", .methodLink RX1 40 yX1_checkClock, .instanceMethod yX1_checkClock, .selects RX1 yX1_checkClock yX1_checkClock, .initialized RX1, .code yX1_checkClock cX1_checkClock 2 none, .classLink RX1 86 "java/lang/IndexOutOfBoundsException", .initialized "java/lang/IndexOutOfBoundsException", .fieldLink RX1 19 "CuckooShop" "present" "I", .instanceMethod yX0_drawUp, .initialized RX0, .selects RX0 yX0_drawUp yX0_drawUp, .code yX0_drawUp cX0_drawUp 2 (some .int), .fieldLink RX0 21 "CuckooShop$Clock" "chain" "I", .fieldLink RX0 30 "CuckooShop$Clock" "goes" "Z"] ++ wsX10 ++ wsX00 ++ (vx_atS RX1 90 "java/lang/IndexOutOfBoundsException" ["java/lang/RuntimeException", "java/lang/Exception"]).filter goodWord)
def wsX1_mend_r1 : List Cond := [Cond.classLink RX1 47 "java/lang/IllegalArgumentException", Cond.initialized "java/lang/IllegalArgumentException", Cond.fieldLink RX1 11 "CuckooShop" "clocks" "[LCuckooShop$Clock;", Cond.methodLink RX1 40 yX1_checkClock, Cond.instanceMethod yX1_checkClock, Cond.selects RX1 yX1_checkClock yX1_checkClock, Cond.initialized RX1, Cond.code yX1_checkClock cX1_checkClock 2 none, Cond.classLink RX1 86 "java/lang/IndexOutOfBoundsException", Cond.initialized "java/lang/IndexOutOfBoundsException", Cond.fieldLink RX1 19 "CuckooShop" "present" "I", Cond.instanceMethod yX0_fillOil, Cond.initialized RX0, Cond.selects RX0 yX0_fillOil yX0_fillOil, Cond.code yX0_fillOil cX0_fillOil 2 (some .int), Cond.fieldLink RX0 24 "CuckooShop$Clock" "oil" "I", Cond.instanceMethod yX0_patchBellows, Cond.selects RX0 yX0_patchBellows yX0_patchBellows, Cond.code yX0_patchBellows cX0_patchBellows 2 (some .int), Cond.fieldLink RX0 27 "CuckooShop$Clock" "bellows" "I", Cond.instanceMethod yX0_nudge, Cond.selects RX0 yX0_nudge yX0_nudge, Cond.code yX0_nudge cX0_nudge 1 (some .int), Cond.fieldLink RX0 30 "CuckooShop$Clock" "goes" "Z"]
def wsX1_mend_r2 : List Cond := [Cond.fieldLink RX0 21 "CuckooShop$Clock" "chain" "I"]
def wsX1_mend : List Cond := .code yX1_mend cX1_mend 3 (some .int) :: ((wsX1_mend_r1 ++ wsX1_mend_r2) ++ wsX10 ++ wsX00 ++ (vx_atS RX1 51 "java/lang/IllegalArgumentException" ["java/lang/RuntimeException", "java/lang/Exception"]).filter goodWord ++ (vx_atS RX1 90 "java/lang/IndexOutOfBoundsException" ["java/lang/RuntimeException", "java/lang/Exception"]).filter goodWord)
def wsX1_shut : List Cond := .code yX1_shut cX1_shut 4 (some .int) :: ([.classLink RX1 47 "java/lang/IllegalArgumentException", .initialized "java/lang/IllegalArgumentException", .fieldLink RX1 11 "CuckooShop" "clocks" "[LCuckooShop$Clock;", .methodLink RX1 40 yX1_checkClock, .instanceMethod yX1_checkClock, .selects RX1 yX1_checkClock yX1_checkClock, .initialized RX1, .code yX1_checkClock cX1_checkClock 2 none, .classLink RX1 86 "java/lang/IndexOutOfBoundsException", .initialized "java/lang/IndexOutOfBoundsException", .fieldLink RX1 19 "CuckooShop" "present" "I", .methodLink RX1 26 yX1_checkTime, .static yX1_checkTime, .code yX1_checkTime cX1_checkTime 1 none, .methodLink RX1 43 yX1_isWithin, .static yX1_isWithin, .code yX1_isWithin cX1_isWithin 3 (some .boolean), .instanceMethod yX0_silence, .initialized RX0, .selects RX0 yX0_silence yX0_silence, .code yX0_silence cX0_silence 4 (some .int), .fieldLink RX0 40 "CuckooShop$Clock" "shutFrom" "I", .fieldLink RX0 43 "CuckooShop$Clock" "shutTill" "I"] ++ wsX10 ++ wsX00 ++ (vx_atS RX1 51 "java/lang/IllegalArgumentException" ["java/lang/RuntimeException", "java/lang/Exception"]).filter goodWord ++ (vx_atS RX1 90 "java/lang/IndexOutOfBoundsException" ["java/lang/RuntimeException", "java/lang/Exception"]).filter goodWord)
def wsX1_clock_r1 : List Cond := [Cond.classLink RX1 86 "java/lang/IndexOutOfBoundsException", Cond.initialized "java/lang/IndexOutOfBoundsException", Cond.fieldLink RX1 11 "CuckooShop" "clocks" "[LCuckooShop$Clock;", Cond.methodLink RX1 40 yX1_checkClock, Cond.instanceMethod yX1_checkClock, Cond.selects RX1 yX1_checkClock yX1_checkClock, Cond.initialized RX1, Cond.code yX1_checkClock cX1_checkClock 2 none, Cond.fieldLink RX1 19 "CuckooShop" "present" "I", Cond.methodLink RX1 43 yX1_isWithin, Cond.static yX1_isWithin, Cond.code yX1_isWithin cX1_isWithin 3 (some .boolean), Cond.instanceMethod yX0_reading, Cond.initialized RX0, Cond.selects RX0 yX0_reading yX0_reading, Cond.code yX0_reading cX0_reading 2 (some .int), Cond.fieldLink RX0 34 "CuckooShop$Clock" "shown" "I", Cond.fieldLink RX0 37 "CuckooShop$Clock" "rest" "I", Cond.fieldLink RX0 21 "CuckooShop$Clock" "chain" "I", Cond.fieldLink RX0 24 "CuckooShop$Clock" "oil" "I", Cond.fieldLink RX0 27 "CuckooShop$Clock" "bellows" "I", Cond.fieldLink RX0 30 "CuckooShop$Clock" "goes" "Z", Cond.fieldLink RX0 46 "CuckooShop$Clock" "calls" "I", Cond.fieldLink RX0 49 "CuckooShop$Clock" "missed" "I"]
def wsX1_clock_r2 : List Cond := [Cond.fieldLink RX0 52 "CuckooShop$Clock" "latestCalls" "I", Cond.methodLink RX0 73 yX0_advance, Cond.instanceMethod yX0_advance, Cond.selects RX0 yX0_advance yX0_advance, Cond.code yX0_advance cX0_advance 1 (some .int), Cond.fieldLink RX0 9 "CuckooShop$Clock" "gearA" "I", Cond.fieldLink RX0 15 "CuckooShop$Clock" "gearB" "I", Cond.methodLink RX0 55 yX0_advanceWith, Cond.instanceMethod yX0_advanceWith, Cond.selects RX0 yX0_advanceWith yX0_advanceWith, Cond.code yX0_advanceWith cX0_advanceWith 4 (some .int), Cond.fieldLink RX0 18 "CuckooShop$Clock" "swing" "I", Cond.methodLink RX0 77 yX0_isShutAt, Cond.instanceMethod yX0_isShutAt, Cond.selects RX0 yX0_isShutAt yX0_isShutAt, Cond.code yX0_isShutAt cX0_isShutAt 2 (some .boolean), Cond.fieldLink RX0 40 "CuckooShop$Clock" "shutFrom" "I", Cond.fieldLink RX0 43 "CuckooShop$Clock" "shutTill" "I"]
def wsX1_clock : List Cond := .code yX1_clock cX1_clock 3 (some .int) :: ((wsX1_clock_r1 ++ wsX1_clock_r2) ++ wsX10 ++ wsX00 ++ (vx_atS RX1 90 "java/lang/IndexOutOfBoundsException" ["java/lang/RuntimeException", "java/lang/Exception"]).filter goodWord)
def wsX1_off : List Cond := .code yX1_off cX1_off 2 (some .int) :: ([.fieldLink RX1 11 "CuckooShop" "clocks" "[LCuckooShop$Clock;", .fieldLink RX1 23 "CuckooShop" "minute" "I", .methodLink RX1 40 yX1_checkClock, .instanceMethod yX1_checkClock, .selects RX1 yX1_checkClock yX1_checkClock, .initialized RX1, .code yX1_checkClock cX1_checkClock 2 none, .classLink RX1 86 "java/lang/IndexOutOfBoundsException", .initialized "java/lang/IndexOutOfBoundsException", .fieldLink RX1 19 "CuckooShop" "present" "I", .methodLink RX1 62 yX1_offOf, .static yX1_offOf, .code yX1_offOf cX1_offOf 3 (some .int), .methodLink RX1 160 yX1_trueTime, .static yX1_trueTime, .code yX1_trueTime cX1_trueTime 1 (some .int), .methodLink RX1 152 yJ9_floorMod_7cf53, .static yJ9_floorMod_7cf53, .initialized RJ9, .code yJ9_floorMod_7cf53 cJ9_floorMod_7cf53 3 (some .int)] ++ wsX10 ++ wsX00 ++ (vx_atS RX1 90 "java/lang/IndexOutOfBoundsException" ["java/lang/RuntimeException", "java/lang/Exception"]).filter goodWord)
def wsX1_sumOf_r1 : List Cond := [Cond.fieldLink RX1 19 "CuckooShop" "present" "I", Cond.instanceMethod yX0_reading, Cond.initialized RX0, Cond.selects RX0 yX0_reading yX0_reading, Cond.code yX0_reading cX0_reading 2 (some .int), Cond.fieldLink RX0 34 "CuckooShop$Clock" "shown" "I", Cond.fieldLink RX0 37 "CuckooShop$Clock" "rest" "I", Cond.fieldLink RX0 21 "CuckooShop$Clock" "chain" "I", Cond.fieldLink RX0 24 "CuckooShop$Clock" "oil" "I", Cond.fieldLink RX0 27 "CuckooShop$Clock" "bellows" "I", Cond.fieldLink RX0 30 "CuckooShop$Clock" "goes" "Z", Cond.fieldLink RX0 46 "CuckooShop$Clock" "calls" "I", Cond.fieldLink RX0 49 "CuckooShop$Clock" "missed" "I", Cond.fieldLink RX0 52 "CuckooShop$Clock" "latestCalls" "I", Cond.methodLink RX0 73 yX0_advance, Cond.instanceMethod yX0_advance, Cond.selects RX0 yX0_advance yX0_advance, Cond.code yX0_advance cX0_advance 1 (some .int), Cond.fieldLink RX0 9 "CuckooShop$Clock" "gearA" "I", Cond.fieldLink RX0 15 "CuckooShop$Clock" "gearB" "I", Cond.methodLink RX0 55 yX0_advanceWith, Cond.instanceMethod yX0_advanceWith, Cond.selects RX0 yX0_advanceWith yX0_advanceWith, Cond.code yX0_advanceWith cX0_advanceWith 4 (some .int)]
def wsX1_sumOf_r2 : List Cond := [Cond.fieldLink RX0 18 "CuckooShop$Clock" "swing" "I", Cond.methodLink RX0 77 yX0_isShutAt, Cond.instanceMethod yX0_isShutAt, Cond.selects RX0 yX0_isShutAt yX0_isShutAt, Cond.code yX0_isShutAt cX0_isShutAt 2 (some .boolean), Cond.fieldLink RX0 40 "CuckooShop$Clock" "shutFrom" "I", Cond.fieldLink RX0 43 "CuckooShop$Clock" "shutTill" "I"]
def wsX1_sumOf : List Cond := .code yX1_sumOf cX1_sumOf 5 (some .int) :: ((wsX1_sumOf_r1 ++ wsX1_sumOf_r2) ++ wsX10 ++ wsX00)
def wsX1_trueClocks : List Cond := .code yX1_trueClocks cX1_trueClocks 3 (some .int) :: ([.fieldLink RX1 19 "CuckooShop" "present" "I", .fieldLink RX1 11 "CuckooShop" "clocks" "[LCuckooShop$Clock;", .fieldLink RX1 23 "CuckooShop" "minute" "I", .methodLink RX1 62 yX1_offOf, .static yX1_offOf, .initialized RX1, .code yX1_offOf cX1_offOf 3 (some .int), .methodLink RX1 160 yX1_trueTime, .static yX1_trueTime, .code yX1_trueTime cX1_trueTime 1 (some .int), .methodLink RX1 152 yJ9_floorMod_7cf53, .static yJ9_floorMod_7cf53, .initialized RJ9, .code yJ9_floorMod_7cf53 cJ9_floorMod_7cf53 3 (some .int)] ++ wsX10 ++ wsX00)
def wsX1_offOfAll : List Cond := .code yX1_offOfAll cX1_offOfAll 5 (some .int) :: ([.fieldLink RX1 19 "CuckooShop" "present" "I", .methodLink RX1 166 Lib.Math.abs.name, .static Lib.Math.abs.name, .initialized "java/lang/Math", .code Lib.Math.abs.name Lib.Math.abs.code 1 (some .int), .methodLink RX1 62 yX1_offOf, .static yX1_offOf, .initialized RX1, .code yX1_offOf cX1_offOf 3 (some .int), .methodLink RX1 160 yX1_trueTime, .static yX1_trueTime, .code yX1_trueTime cX1_trueTime 1 (some .int), .methodLink RX1 152 yJ9_floorMod_7cf53, .static yJ9_floorMod_7cf53, .initialized RJ9, .code yJ9_floorMod_7cf53 cJ9_floorMod_7cf53 3 (some .int)] ++ wsX10 ++ wsX00)
def wsX1_tally_r1 : List Cond := [Cond.fieldLink RX1 23 "CuckooShop" "minute" "I", Cond.fieldLink RX1 19 "CuckooShop" "present" "I", Cond.fieldLink RX1 11 "CuckooShop" "clocks" "[LCuckooShop$Clock;", Cond.methodLink RX1 160 yX1_trueTime, Cond.static yX1_trueTime, Cond.initialized RX1, Cond.code yX1_trueTime cX1_trueTime 1 (some .int), Cond.methodLink RX1 152 yJ9_floorMod_7cf53, Cond.static yJ9_floorMod_7cf53, Cond.initialized RJ9, Cond.code yJ9_floorMod_7cf53 cJ9_floorMod_7cf53 3 (some .int), Cond.methodLink RX1 125 yX1_sumOf, Cond.instanceMethod yX1_sumOf, Cond.selects RX1 yX1_sumOf yX1_sumOf, Cond.code yX1_sumOf cX1_sumOf 5 (some .int), Cond.instanceMethod yX0_reading, Cond.initialized RX0, Cond.selects RX0 yX0_reading yX0_reading, Cond.code yX0_reading cX0_reading 2 (some .int), Cond.fieldLink RX0 34 "CuckooShop$Clock" "shown" "I", Cond.fieldLink RX0 37 "CuckooShop$Clock" "rest" "I", Cond.fieldLink RX0 21 "CuckooShop$Clock" "chain" "I", Cond.fieldLink RX0 24 "CuckooShop$Clock" "oil" "I", Cond.fieldLink RX0 27 "CuckooShop$Clock" "bellows" "I"]
def wsX1_tally_r2 : List Cond := [Cond.fieldLink RX0 30 "CuckooShop$Clock" "goes" "Z", Cond.fieldLink RX0 46 "CuckooShop$Clock" "calls" "I", Cond.fieldLink RX0 49 "CuckooShop$Clock" "missed" "I", Cond.fieldLink RX0 52 "CuckooShop$Clock" "latestCalls" "I", Cond.methodLink RX0 73 yX0_advance, Cond.instanceMethod yX0_advance, Cond.selects RX0 yX0_advance yX0_advance, Cond.code yX0_advance cX0_advance 1 (some .int), Cond.fieldLink RX0 9 "CuckooShop$Clock" "gearA" "I", Cond.fieldLink RX0 15 "CuckooShop$Clock" "gearB" "I", Cond.methodLink RX0 55 yX0_advanceWith, Cond.instanceMethod yX0_advanceWith, Cond.selects RX0 yX0_advanceWith yX0_advanceWith, Cond.code yX0_advanceWith cX0_advanceWith 4 (some .int), Cond.fieldLink RX0 18 "CuckooShop$Clock" "swing" "I", Cond.methodLink RX0 77 yX0_isShutAt, Cond.instanceMethod yX0_isShutAt, Cond.selects RX0 yX0_isShutAt yX0_isShutAt, Cond.code yX0_isShutAt cX0_isShutAt 2 (some .boolean), Cond.fieldLink RX0 40 "CuckooShop$Clock" "shutFrom" "I", Cond.fieldLink RX0 43 "CuckooShop$Clock" "shutTill" "I", Cond.methodLink RX1 163 yX1_trueClocks, Cond.instanceMethod yX1_trueClocks, Cond.selects RX1 yX1_trueClocks yX1_trueClocks]
def wsX1_tally_r3 : List Cond := [Cond.code yX1_trueClocks cX1_trueClocks 3 (some .int), Cond.methodLink RX1 62 yX1_offOf, Cond.static yX1_offOf, Cond.code yX1_offOf cX1_offOf 3 (some .int), Cond.methodLink RX1 128 yX1_offOfAll, Cond.instanceMethod yX1_offOfAll, Cond.selects RX1 yX1_offOfAll yX1_offOfAll, Cond.code yX1_offOfAll cX1_offOfAll 5 (some .int), Cond.methodLink RX1 166 Lib.Math.abs.name, Cond.static Lib.Math.abs.name, Cond.initialized "java/lang/Math", Cond.code Lib.Math.abs.name Lib.Math.abs.code 1 (some .int)]
def wsX1_tally : List Cond := .code yX1_tally cX1_tally 2 (some .int) :: ((wsX1_tally_r1 ++ (wsX1_tally_r2 ++ wsX1_tally_r3)) ++ wsX10 ++ wsX00)
def wsX1_count_r1 : List Cond := [Cond.classLink RX1 86 "java/lang/IndexOutOfBoundsException", Cond.initialized "java/lang/IndexOutOfBoundsException", Cond.methodLink RX1 43 yX1_isWithin, Cond.static yX1_isWithin, Cond.initialized RX1, Cond.code yX1_isWithin cX1_isWithin 3 (some .boolean), Cond.methodLink RX1 97 yX1_tally, Cond.instanceMethod yX1_tally, Cond.selects RX1 yX1_tally yX1_tally, Cond.code yX1_tally cX1_tally 2 (some .int), Cond.fieldLink RX1 23 "CuckooShop" "minute" "I", Cond.fieldLink RX1 19 "CuckooShop" "present" "I", Cond.fieldLink RX1 11 "CuckooShop" "clocks" "[LCuckooShop$Clock;", Cond.methodLink RX1 160 yX1_trueTime, Cond.static yX1_trueTime, Cond.code yX1_trueTime cX1_trueTime 1 (some .int), Cond.methodLink RX1 152 yJ9_floorMod_7cf53, Cond.static yJ9_floorMod_7cf53, Cond.initialized RJ9, Cond.code yJ9_floorMod_7cf53 cJ9_floorMod_7cf53 3 (some .int), Cond.methodLink RX1 125 yX1_sumOf, Cond.instanceMethod yX1_sumOf, Cond.selects RX1 yX1_sumOf yX1_sumOf, Cond.code yX1_sumOf cX1_sumOf 5 (some .int)]
def wsX1_count_r2 : List Cond := [Cond.instanceMethod yX0_reading, Cond.initialized RX0, Cond.selects RX0 yX0_reading yX0_reading, Cond.code yX0_reading cX0_reading 2 (some .int), Cond.fieldLink RX0 34 "CuckooShop$Clock" "shown" "I", Cond.fieldLink RX0 37 "CuckooShop$Clock" "rest" "I", Cond.fieldLink RX0 21 "CuckooShop$Clock" "chain" "I", Cond.fieldLink RX0 24 "CuckooShop$Clock" "oil" "I", Cond.fieldLink RX0 27 "CuckooShop$Clock" "bellows" "I", Cond.fieldLink RX0 30 "CuckooShop$Clock" "goes" "Z", Cond.fieldLink RX0 46 "CuckooShop$Clock" "calls" "I", Cond.fieldLink RX0 49 "CuckooShop$Clock" "missed" "I", Cond.fieldLink RX0 52 "CuckooShop$Clock" "latestCalls" "I", Cond.methodLink RX0 73 yX0_advance, Cond.instanceMethod yX0_advance, Cond.selects RX0 yX0_advance yX0_advance, Cond.code yX0_advance cX0_advance 1 (some .int), Cond.fieldLink RX0 9 "CuckooShop$Clock" "gearA" "I", Cond.fieldLink RX0 15 "CuckooShop$Clock" "gearB" "I", Cond.methodLink RX0 55 yX0_advanceWith, Cond.instanceMethod yX0_advanceWith, Cond.selects RX0 yX0_advanceWith yX0_advanceWith, Cond.code yX0_advanceWith cX0_advanceWith 4 (some .int), Cond.fieldLink RX0 18 "CuckooShop$Clock" "swing" "I"]
def wsX1_count_r3 : List Cond := [Cond.methodLink RX0 77 yX0_isShutAt, Cond.instanceMethod yX0_isShutAt, Cond.selects RX0 yX0_isShutAt yX0_isShutAt, Cond.code yX0_isShutAt cX0_isShutAt 2 (some .boolean), Cond.fieldLink RX0 40 "CuckooShop$Clock" "shutFrom" "I", Cond.fieldLink RX0 43 "CuckooShop$Clock" "shutTill" "I", Cond.methodLink RX1 163 yX1_trueClocks, Cond.instanceMethod yX1_trueClocks, Cond.selects RX1 yX1_trueClocks yX1_trueClocks, Cond.code yX1_trueClocks cX1_trueClocks 3 (some .int), Cond.methodLink RX1 62 yX1_offOf, Cond.static yX1_offOf, Cond.code yX1_offOf cX1_offOf 3 (some .int), Cond.methodLink RX1 128 yX1_offOfAll, Cond.instanceMethod yX1_offOfAll, Cond.selects RX1 yX1_offOfAll yX1_offOfAll, Cond.code yX1_offOfAll cX1_offOfAll 5 (some .int), Cond.methodLink RX1 166 Lib.Math.abs.name, Cond.static Lib.Math.abs.name, Cond.initialized "java/lang/Math", Cond.code Lib.Math.abs.name Lib.Math.abs.code 1 (some .int)]
def wsX1_count : List Cond := .code yX1_count cX1_count 2 (some .int) :: ((wsX1_count_r1 ++ (wsX1_count_r2 ++ wsX1_count_r3)) ++ wsX10 ++ wsX00 ++ (vx_atS RX1 90 "java/lang/IndexOutOfBoundsException" ["java/lang/RuntimeException", "java/lang/Exception"]).filter goodWord)
def wsX1_checkMinutes : List Cond := .code yX1_checkMinutes cX1_checkMinutes 1 none :: ([.classLink RX1 47 "java/lang/IllegalArgumentException", .initialized "java/lang/IllegalArgumentException", .methodLink RX1 43 yX1_isWithin, .static yX1_isWithin, .initialized RX1, .code yX1_isWithin cX1_isWithin 3 (some .boolean)] ++ (vx_atS RX1 51 "java/lang/IllegalArgumentException" ["java/lang/RuntimeException", "java/lang/Exception"]).filter goodWord)
def wsX1_runRow_r1 : List Cond := [Cond.fieldLink RX1 19 "CuckooShop" "present" "I", Cond.instanceMethod yX0_runMinute, Cond.initialized RX0, Cond.selects RX0 yX0_runMinute yX0_runMinute, Cond.code yX0_runMinute cX0_runMinute 2 none, Cond.fieldLink RX0 52 "CuckooShop$Clock" "latestCalls" "I", Cond.fieldLink RX0 30 "CuckooShop$Clock" "goes" "Z", Cond.methodLink RX0 66 yX0_turn, Cond.instanceMethod yX0_turn, Cond.selects RX0 yX0_turn yX0_turn, Cond.code yX0_turn cX0_turn 3 none, Cond.fieldLink RX0 37 "CuckooShop$Clock" "rest" "I", Cond.fieldLink RX0 34 "CuckooShop$Clock" "shown" "I", Cond.methodLink RX0 73 yX0_advance, Cond.instanceMethod yX0_advance, Cond.selects RX0 yX0_advance yX0_advance, Cond.code yX0_advance cX0_advance 1 (some .int), Cond.fieldLink RX0 9 "CuckooShop$Clock" "gearA" "I", Cond.fieldLink RX0 15 "CuckooShop$Clock" "gearB" "I", Cond.methodLink RX0 55 yX0_advanceWith, Cond.instanceMethod yX0_advanceWith, Cond.selects RX0 yX0_advanceWith yX0_advanceWith, Cond.code yX0_advanceWith cX0_advanceWith 4 (some .int), Cond.fieldLink RX0 18 "CuckooShop$Clock" "swing" "I"]
def wsX1_runRow_r2 : List Cond := [Cond.fieldLink RX0 24 "CuckooShop$Clock" "oil" "I", Cond.methodLink RX0 77 yX0_isShutAt, Cond.instanceMethod yX0_isShutAt, Cond.selects RX0 yX0_isShutAt yX0_isShutAt, Cond.code yX0_isShutAt cX0_isShutAt 2 (some .boolean), Cond.fieldLink RX0 40 "CuckooShop$Clock" "shutFrom" "I", Cond.fieldLink RX0 43 "CuckooShop$Clock" "shutTill" "I", Cond.methodLink RX0 81 yX0_callsDueAt, Cond.static yX0_callsDueAt, Cond.code yX0_callsDueAt cX0_callsDueAt 1 (some .int), Cond.methodLink RX0 84 yX0_cuckoo, Cond.instanceMethod yX0_cuckoo, Cond.selects RX0 yX0_cuckoo yX0_cuckoo, Cond.code yX0_cuckoo cX0_cuckoo 3 none, Cond.fieldLink RX0 27 "CuckooShop$Clock" "bellows" "I", Cond.methodLink RX0 87 Lib.Math.min.name, Cond.static Lib.Math.min.name, Cond.initialized "java/lang/Math", Cond.code Lib.Math.min.name Lib.Math.min.code 2 (some .int), Cond.fieldLink RX0 46 "CuckooShop$Clock" "calls" "I", Cond.fieldLink RX0 49 "CuckooShop$Clock" "missed" "I", Cond.methodLink RX0 69 yX0_wear, Cond.instanceMethod yX0_wear, Cond.selects RX0 yX0_wear yX0_wear]
def wsX1_runRow_r3 : List Cond := [Cond.code yX0_wear cX0_wear 2 none, Cond.fieldLink RX0 21 "CuckooShop$Clock" "chain" "I"]
def wsX1_runRow : List Cond := .code yX1_runRow cX1_runRow 5 (some .int) :: ((wsX1_runRow_r1 ++ (wsX1_runRow_r2 ++ wsX1_runRow_r3)) ++ wsX10 ++ wsX00)
def wsX1_pass_r1 : List Cond := [Cond.fieldLink RX1 11 "CuckooShop" "clocks" "[LCuckooShop$Clock;", Cond.fieldLink RX1 23 "CuckooShop" "minute" "I", Cond.methodLink RX1 100 yX1_checkMinutes, Cond.static yX1_checkMinutes, Cond.initialized RX1, Cond.code yX1_checkMinutes cX1_checkMinutes 1 none, Cond.classLink RX1 47 "java/lang/IllegalArgumentException", Cond.initialized "java/lang/IllegalArgumentException", Cond.methodLink RX1 43 yX1_isWithin, Cond.static yX1_isWithin, Cond.code yX1_isWithin cX1_isWithin 3 (some .boolean), Cond.methodLink RX1 103 yX1_runRow, Cond.instanceMethod yX1_runRow, Cond.selects RX1 yX1_runRow yX1_runRow, Cond.code yX1_runRow cX1_runRow 5 (some .int), Cond.fieldLink RX1 19 "CuckooShop" "present" "I", Cond.instanceMethod yX0_runMinute, Cond.initialized RX0, Cond.selects RX0 yX0_runMinute yX0_runMinute, Cond.code yX0_runMinute cX0_runMinute 2 none, Cond.fieldLink RX0 52 "CuckooShop$Clock" "latestCalls" "I", Cond.fieldLink RX0 30 "CuckooShop$Clock" "goes" "Z", Cond.methodLink RX0 66 yX0_turn, Cond.instanceMethod yX0_turn]
def wsX1_pass_r2 : List Cond := [Cond.selects RX0 yX0_turn yX0_turn, Cond.code yX0_turn cX0_turn 3 none, Cond.fieldLink RX0 37 "CuckooShop$Clock" "rest" "I", Cond.fieldLink RX0 34 "CuckooShop$Clock" "shown" "I", Cond.methodLink RX0 73 yX0_advance, Cond.instanceMethod yX0_advance, Cond.selects RX0 yX0_advance yX0_advance, Cond.code yX0_advance cX0_advance 1 (some .int), Cond.fieldLink RX0 9 "CuckooShop$Clock" "gearA" "I", Cond.fieldLink RX0 15 "CuckooShop$Clock" "gearB" "I", Cond.methodLink RX0 55 yX0_advanceWith, Cond.instanceMethod yX0_advanceWith, Cond.selects RX0 yX0_advanceWith yX0_advanceWith, Cond.code yX0_advanceWith cX0_advanceWith 4 (some .int), Cond.fieldLink RX0 18 "CuckooShop$Clock" "swing" "I", Cond.fieldLink RX0 24 "CuckooShop$Clock" "oil" "I", Cond.methodLink RX0 77 yX0_isShutAt, Cond.instanceMethod yX0_isShutAt, Cond.selects RX0 yX0_isShutAt yX0_isShutAt, Cond.code yX0_isShutAt cX0_isShutAt 2 (some .boolean), Cond.fieldLink RX0 40 "CuckooShop$Clock" "shutFrom" "I", Cond.fieldLink RX0 43 "CuckooShop$Clock" "shutTill" "I", Cond.methodLink RX0 81 yX0_callsDueAt, Cond.static yX0_callsDueAt]
def wsX1_pass_r3 : List Cond := [Cond.code yX0_callsDueAt cX0_callsDueAt 1 (some .int), Cond.methodLink RX0 84 yX0_cuckoo, Cond.instanceMethod yX0_cuckoo, Cond.selects RX0 yX0_cuckoo yX0_cuckoo, Cond.code yX0_cuckoo cX0_cuckoo 3 none, Cond.fieldLink RX0 27 "CuckooShop$Clock" "bellows" "I", Cond.methodLink RX0 87 Lib.Math.min.name, Cond.static Lib.Math.min.name, Cond.initialized "java/lang/Math", Cond.code Lib.Math.min.name Lib.Math.min.code 2 (some .int), Cond.fieldLink RX0 46 "CuckooShop$Clock" "calls" "I", Cond.fieldLink RX0 49 "CuckooShop$Clock" "missed" "I", Cond.methodLink RX0 69 yX0_wear, Cond.instanceMethod yX0_wear, Cond.selects RX0 yX0_wear yX0_wear, Cond.code yX0_wear cX0_wear 2 none, Cond.fieldLink RX0 21 "CuckooShop$Clock" "chain" "I"]
def wsX1_pass : List Cond := .code yX1_pass cX1_pass 4 (some .int) :: ((wsX1_pass_r1 ++ (wsX1_pass_r2 ++ wsX1_pass_r3)) ++ wsX10 ++ wsX00 ++ (vx_atS RX1 51 "java/lang/IllegalArgumentException" ["java/lang/RuntimeException", "java/lang/Exception"]).filter goodWord)
def wsX1_next_r1 : List Cond := [Cond.fieldLink RX1 15 "CuckooShop" "copies" "[LCuckooShop$Clock;", Cond.fieldLink RX1 11 "CuckooShop" "clocks" "[LCuckooShop$Clock;", Cond.fieldLink RX1 23 "CuckooShop" "minute" "I", Cond.methodLink RX1 40 yX1_checkClock, Cond.instanceMethod yX1_checkClock, Cond.selects RX1 yX1_checkClock yX1_checkClock, Cond.initialized RX1, Cond.code yX1_checkClock cX1_checkClock 2 none, Cond.classLink RX1 86 "java/lang/IndexOutOfBoundsException", Cond.initialized "java/lang/IndexOutOfBoundsException", Cond.fieldLink RX1 19 "CuckooShop" "present" "I", Cond.instanceMethod yX0_copyFrom, Cond.initialized RX0, Cond.selects RX0 yX0_copyFrom yX0_copyFrom, Cond.code yX0_copyFrom cX0_copyFrom 2 none, Cond.fieldLink RX0 9 "CuckooShop$Clock" "gearA" "I", Cond.fieldLink RX0 15 "CuckooShop$Clock" "gearB" "I", Cond.fieldLink RX0 18 "CuckooShop$Clock" "swing" "I", Cond.fieldLink RX0 21 "CuckooShop$Clock" "chain" "I", Cond.fieldLink RX0 24 "CuckooShop$Clock" "oil" "I", Cond.fieldLink RX0 27 "CuckooShop$Clock" "bellows" "I", Cond.fieldLink RX0 30 "CuckooShop$Clock" "goes" "Z", Cond.fieldLink RX0 34 "CuckooShop$Clock" "shown" "I", Cond.fieldLink RX0 37 "CuckooShop$Clock" "rest" "I"]
def wsX1_next_r2 : List Cond := [Cond.fieldLink RX0 40 "CuckooShop$Clock" "shutFrom" "I", Cond.fieldLink RX0 43 "CuckooShop$Clock" "shutTill" "I", Cond.fieldLink RX0 46 "CuckooShop$Clock" "calls" "I", Cond.fieldLink RX0 49 "CuckooShop$Clock" "missed" "I", Cond.fieldLink RX0 52 "CuckooShop$Clock" "latestCalls" "I", Cond.instanceMethod yX0_runMinute, Cond.selects RX0 yX0_runMinute yX0_runMinute, Cond.code yX0_runMinute cX0_runMinute 2 none, Cond.methodLink RX0 66 yX0_turn, Cond.instanceMethod yX0_turn, Cond.selects RX0 yX0_turn yX0_turn, Cond.code yX0_turn cX0_turn 3 none, Cond.methodLink RX0 73 yX0_advance, Cond.instanceMethod yX0_advance, Cond.selects RX0 yX0_advance yX0_advance, Cond.code yX0_advance cX0_advance 1 (some .int), Cond.methodLink RX0 55 yX0_advanceWith, Cond.instanceMethod yX0_advanceWith, Cond.selects RX0 yX0_advanceWith yX0_advanceWith, Cond.code yX0_advanceWith cX0_advanceWith 4 (some .int), Cond.methodLink RX0 77 yX0_isShutAt, Cond.instanceMethod yX0_isShutAt, Cond.selects RX0 yX0_isShutAt yX0_isShutAt, Cond.code yX0_isShutAt cX0_isShutAt 2 (some .boolean)]
def wsX1_next_r3 : List Cond := [Cond.methodLink RX0 81 yX0_callsDueAt, Cond.static yX0_callsDueAt, Cond.code yX0_callsDueAt cX0_callsDueAt 1 (some .int), Cond.methodLink RX0 84 yX0_cuckoo, Cond.instanceMethod yX0_cuckoo, Cond.selects RX0 yX0_cuckoo yX0_cuckoo, Cond.code yX0_cuckoo cX0_cuckoo 3 none, Cond.methodLink RX0 87 Lib.Math.min.name, Cond.static Lib.Math.min.name, Cond.initialized "java/lang/Math", Cond.code Lib.Math.min.name Lib.Math.min.code 2 (some .int), Cond.methodLink RX0 69 yX0_wear, Cond.instanceMethod yX0_wear, Cond.selects RX0 yX0_wear yX0_wear, Cond.code yX0_wear cX0_wear 2 none]
def wsX1_next : List Cond := .code yX1_next cX1_next 4 (some .int) :: ((wsX1_next_r1 ++ (wsX1_next_r2 ++ wsX1_next_r3)) ++ wsX10 ++ wsX00 ++ (vx_atS RX1 90 "java/lang/IndexOutOfBoundsException" ["java/lang/RuntimeException", "java/lang/Exception"]).filter goodWord)
def wsX1_stands : List Cond := .code yX1_stands cX1_stands 2 (some .int) :: ([.fieldLink RX1 11 "CuckooShop" "clocks" "[LCuckooShop$Clock;", .methodLink RX1 40 yX1_checkClock, .instanceMethod yX1_checkClock, .selects RX1 yX1_checkClock yX1_checkClock, .initialized RX1, .code yX1_checkClock cX1_checkClock 2 none, .classLink RX1 86 "java/lang/IndexOutOfBoundsException", .initialized "java/lang/IndexOutOfBoundsException", .fieldLink RX1 19 "CuckooShop" "present" "I", .instanceMethod yX0_minutesToStand, .initialized RX0, .selects RX0 yX0_minutesToStand yX0_minutesToStand, .code yX0_minutesToStand cX0_minutesToStand 1 (some .int), .fieldLink RX0 30 "CuckooShop$Clock" "goes" "Z", .fieldLink RX0 21 "CuckooShop$Clock" "chain" "I"] ++ wsX10 ++ wsX00 ++ (vx_atS RX1 90 "java/lang/IndexOutOfBoundsException" ["java/lang/RuntimeException", "java/lang/Exception"]).filter goodWord)
def wsX1_copyClocks : List Cond := .code yX1_copyClocks cX1_copyClocks 2 none :: ([.fieldLink RX1 19 "CuckooShop" "present" "I", .fieldLink RX1 15 "CuckooShop" "copies" "[LCuckooShop$Clock;", .fieldLink RX1 11 "CuckooShop" "clocks" "[LCuckooShop$Clock;", .instanceMethod yX0_copyFrom, .initialized RX0, .selects RX0 yX0_copyFrom yX0_copyFrom, .code yX0_copyFrom cX0_copyFrom 2 none, .fieldLink RX0 9 "CuckooShop$Clock" "gearA" "I", .fieldLink RX0 15 "CuckooShop$Clock" "gearB" "I", .fieldLink RX0 18 "CuckooShop$Clock" "swing" "I", .fieldLink RX0 21 "CuckooShop$Clock" "chain" "I", .fieldLink RX0 24 "CuckooShop$Clock" "oil" "I", .fieldLink RX0 27 "CuckooShop$Clock" "bellows" "I", .fieldLink RX0 30 "CuckooShop$Clock" "goes" "Z", .fieldLink RX0 34 "CuckooShop$Clock" "shown" "I", .fieldLink RX0 37 "CuckooShop$Clock" "rest" "I", .fieldLink RX0 40 "CuckooShop$Clock" "shutFrom" "I", .fieldLink RX0 43 "CuckooShop$Clock" "shutTill" "I", .fieldLink RX0 46 "CuckooShop$Clock" "calls" "I", .fieldLink RX0 49 "CuckooShop$Clock" "missed" "I", .fieldLink RX0 52 "CuckooShop$Clock" "latestCalls" "I"] ++ wsX10 ++ wsX00)
def wsX1_foresee_r1 : List Cond := [Cond.classLink RX1 86 "java/lang/IndexOutOfBoundsException", Cond.initialized "java/lang/IndexOutOfBoundsException", Cond.fieldLink RX1 15 "CuckooShop" "copies" "[LCuckooShop$Clock;", Cond.fieldLink RX1 23 "CuckooShop" "minute" "I", Cond.fieldLink RX1 11 "CuckooShop" "clocks" "[LCuckooShop$Clock;", Cond.methodLink RX1 100 yX1_checkMinutes, Cond.static yX1_checkMinutes, Cond.initialized RX1, Cond.code yX1_checkMinutes cX1_checkMinutes 1 none, Cond.classLink RX1 47 "java/lang/IllegalArgumentException", Cond.initialized "java/lang/IllegalArgumentException", Cond.methodLink RX1 43 yX1_isWithin, Cond.static yX1_isWithin, Cond.code yX1_isWithin cX1_isWithin 3 (some .boolean), Cond.methodLink RX1 120 yX1_copyClocks, Cond.instanceMethod yX1_copyClocks, Cond.selects RX1 yX1_copyClocks yX1_copyClocks, Cond.code yX1_copyClocks cX1_copyClocks 2 none, Cond.fieldLink RX1 19 "CuckooShop" "present" "I", Cond.instanceMethod yX0_copyFrom, Cond.initialized RX0, Cond.selects RX0 yX0_copyFrom yX0_copyFrom, Cond.code yX0_copyFrom cX0_copyFrom 2 none, Cond.fieldLink RX0 9 "CuckooShop$Clock" "gearA" "I"]
def wsX1_foresee_r2 : List Cond := [Cond.fieldLink RX0 15 "CuckooShop$Clock" "gearB" "I", Cond.fieldLink RX0 18 "CuckooShop$Clock" "swing" "I", Cond.fieldLink RX0 21 "CuckooShop$Clock" "chain" "I", Cond.fieldLink RX0 24 "CuckooShop$Clock" "oil" "I", Cond.fieldLink RX0 27 "CuckooShop$Clock" "bellows" "I", Cond.fieldLink RX0 30 "CuckooShop$Clock" "goes" "Z", Cond.fieldLink RX0 34 "CuckooShop$Clock" "shown" "I", Cond.fieldLink RX0 37 "CuckooShop$Clock" "rest" "I", Cond.fieldLink RX0 40 "CuckooShop$Clock" "shutFrom" "I", Cond.fieldLink RX0 43 "CuckooShop$Clock" "shutTill" "I", Cond.fieldLink RX0 46 "CuckooShop$Clock" "calls" "I", Cond.fieldLink RX0 49 "CuckooShop$Clock" "missed" "I", Cond.fieldLink RX0 52 "CuckooShop$Clock" "latestCalls" "I", Cond.methodLink RX1 103 yX1_runRow, Cond.instanceMethod yX1_runRow, Cond.selects RX1 yX1_runRow yX1_runRow, Cond.code yX1_runRow cX1_runRow 5 (some .int), Cond.instanceMethod yX0_runMinute, Cond.selects RX0 yX0_runMinute yX0_runMinute, Cond.code yX0_runMinute cX0_runMinute 2 none, Cond.methodLink RX0 66 yX0_turn, Cond.instanceMethod yX0_turn, Cond.selects RX0 yX0_turn yX0_turn, Cond.code yX0_turn cX0_turn 3 none]
def wsX1_foresee_r3 : List Cond := [Cond.methodLink RX0 73 yX0_advance, Cond.instanceMethod yX0_advance, Cond.selects RX0 yX0_advance yX0_advance, Cond.code yX0_advance cX0_advance 1 (some .int), Cond.methodLink RX0 55 yX0_advanceWith, Cond.instanceMethod yX0_advanceWith, Cond.selects RX0 yX0_advanceWith yX0_advanceWith, Cond.code yX0_advanceWith cX0_advanceWith 4 (some .int), Cond.methodLink RX0 77 yX0_isShutAt, Cond.instanceMethod yX0_isShutAt, Cond.selects RX0 yX0_isShutAt yX0_isShutAt, Cond.code yX0_isShutAt cX0_isShutAt 2 (some .boolean), Cond.methodLink RX0 81 yX0_callsDueAt, Cond.static yX0_callsDueAt, Cond.code yX0_callsDueAt cX0_callsDueAt 1 (some .int), Cond.methodLink RX0 84 yX0_cuckoo, Cond.instanceMethod yX0_cuckoo, Cond.selects RX0 yX0_cuckoo yX0_cuckoo, Cond.code yX0_cuckoo cX0_cuckoo 3 none, Cond.methodLink RX0 87 Lib.Math.min.name, Cond.static Lib.Math.min.name, Cond.initialized "java/lang/Math", Cond.code Lib.Math.min.name Lib.Math.min.code 2 (some .int), Cond.methodLink RX0 69 yX0_wear]
def wsX1_foresee_r4 : List Cond := [Cond.instanceMethod yX0_wear, Cond.selects RX0 yX0_wear yX0_wear, Cond.code yX0_wear cX0_wear 2 none, Cond.methodLink RX1 125 yX1_sumOf, Cond.instanceMethod yX1_sumOf, Cond.selects RX1 yX1_sumOf yX1_sumOf, Cond.code yX1_sumOf cX1_sumOf 5 (some .int), Cond.instanceMethod yX0_reading, Cond.selects RX0 yX0_reading yX0_reading, Cond.code yX0_reading cX0_reading 2 (some .int), Cond.methodLink RX1 128 yX1_offOfAll, Cond.instanceMethod yX1_offOfAll, Cond.selects RX1 yX1_offOfAll yX1_offOfAll, Cond.code yX1_offOfAll cX1_offOfAll 5 (some .int), Cond.methodLink RX1 166 Lib.Math.abs.name, Cond.static Lib.Math.abs.name, Cond.code Lib.Math.abs.name Lib.Math.abs.code 1 (some .int), Cond.methodLink RX1 62 yX1_offOf, Cond.static yX1_offOf, Cond.code yX1_offOf cX1_offOf 3 (some .int), Cond.methodLink RX1 160 yX1_trueTime, Cond.static yX1_trueTime, Cond.code yX1_trueTime cX1_trueTime 1 (some .int), Cond.methodLink RX1 152 yJ9_floorMod_7cf53]
def wsX1_foresee_r5 : List Cond := [Cond.static yJ9_floorMod_7cf53, Cond.initialized RJ9, Cond.code yJ9_floorMod_7cf53 cJ9_floorMod_7cf53 3 (some .int)]
def wsX1_foresee : List Cond := .code yX1_foresee cX1_foresee 5 (some .int) :: ((wsX1_foresee_r1 ++ (wsX1_foresee_r2 ++ (wsX1_foresee_r3 ++ (wsX1_foresee_r4 ++ wsX1_foresee_r5)))) ++ wsX10 ++ wsX00 ++ (vx_atS RX1 90 "java/lang/IndexOutOfBoundsException" ["java/lang/RuntimeException", "java/lang/Exception"]).filter goodWord ++ (vx_atS RX1 51 "java/lang/IllegalArgumentException" ["java/lang/RuntimeException", "java/lang/Exception"]).filter goodWord)
def wsX1_mean : List Cond := .code yX1_mean cX1_mean 4 (some .double) :: ([.fieldLink RX1 19 "CuckooShop" "present" "I", .fieldLink RX1 11 "CuckooShop" "clocks" "[LCuckooShop$Clock;", .instanceMethod yX0_advance, .initialized RX0, .selects RX0 yX0_advance yX0_advance, .code yX0_advance cX0_advance 1 (some .int), .fieldLink RX0 9 "CuckooShop$Clock" "gearA" "I", .fieldLink RX0 15 "CuckooShop$Clock" "gearB" "I", .methodLink RX0 55 yX0_advanceWith, .instanceMethod yX0_advanceWith, .selects RX0 yX0_advanceWith yX0_advanceWith, .code yX0_advanceWith cX0_advanceWith 4 (some .int), .fieldLink RX0 18 "CuckooShop$Clock" "swing" "I", .fieldLink RX0 24 "CuckooShop$Clock" "oil" "I"] ++ wsX10 ++ wsX00)
def wsX2_init : List Cond := .code yX2_init cX2_init 1 none :: ([.methodLink RX2 1 objectInit, .instanceMethod objectInit, .code objectInit ⟨#[0xb1]⟩ 1 none, .fieldLink RX2 7 "CuckooShopLaw$Clock" "a" "I", .fieldLink RX2 13 "CuckooShopLaw$Clock" "b" "I", .fieldLink RX2 16 "CuckooShopLaw$Clock" "chain" "I", .fieldLink RX2 19 "CuckooShopLaw$Clock" "oil" "I", .fieldLink RX2 22 "CuckooShopLaw$Clock" "bellows" "I", .fieldLink RX2 25 "CuckooShopLaw$Clock" "goes" "Z", .fieldLink RX2 29 "CuckooShopLaw$Clock" "from" "I"] ++ wsX20)
def wsX2_advance : List Cond := .code yX2_advance cX2_advance 4 (some .int) :: ([.fieldLink RX2 33 "CuckooShopLaw$Clock" "swing" "I", .fieldLink RX2 19 "CuckooShopLaw$Clock" "oil" "I"] ++ wsX20)
def wsX2_isShut : List Cond := .code yX2_isShut cX2_isShut 2 (some .boolean) :: ([.fieldLink RX2 29 "CuckooShopLaw$Clock" "from" "I", .fieldLink RX2 42 "CuckooShopLaw$Clock" "till" "I"] ++ wsX20)
def wsX2_pass : List Cond := .code yX2_pass cX2_pass 4 none :: ([.fieldLink RX2 45 "CuckooShopLaw$Clock" "latest" "I", .fieldLink RX2 25 "CuckooShopLaw$Clock" "goes" "Z", .fieldLink RX2 39 "CuckooShopLaw$Clock" "rest" "I", .fieldLink RX2 7 "CuckooShopLaw$Clock" "a" "I", .fieldLink RX2 13 "CuckooShopLaw$Clock" "b" "I", .fieldLink RX2 36 "CuckooShopLaw$Clock" "shows" "I", .fieldLink RX2 22 "CuckooShopLaw$Clock" "bellows" "I", .fieldLink RX2 56 "CuckooShopLaw$Clock" "calls" "I", .fieldLink RX2 59 "CuckooShopLaw$Clock" "missed" "I", .fieldLink RX2 16 "CuckooShopLaw$Clock" "chain" "I", .fieldLink RX2 19 "CuckooShopLaw$Clock" "oil" "I", .methodLink RX2 48 yX2_advance, .instanceMethod yX2_advance, .selects RX2 yX2_advance yX2_advance, .initialized RX2, .code yX2_advance cX2_advance 4 (some .int), .fieldLink RX2 33 "CuckooShopLaw$Clock" "swing" "I", .methodLink RX2 52 yX2_isShut, .instanceMethod yX2_isShut, .selects RX2 yX2_isShut yX2_isShut, .code yX2_isShut cX2_isShut 2 (some .boolean), .fieldLink RX2 29 "CuckooShopLaw$Clock" "from" "I", .fieldLink RX2 42 "CuckooShopLaw$Clock" "till" "I"] ++ wsX20)
def wsX2_off : List Cond := .code yX2_off cX2_off 3 (some .int) :: ([.fieldLink RX2 36 "CuckooShopLaw$Clock" "shows" "I"] ++ wsX20)
def wsX3_init : List Cond := .code yX3_init cX3_init 1 none :: ([.methodLink RX3 1 objectInit, .instanceMethod objectInit, .code objectInit ⟨#[0xb1]⟩ 1 none, .classLink RX3 7 RX2, .fieldLink RX3 9 "CuckooShopLaw$Sim" "clocks" "[LCuckooShopLaw$Clock;"] ++ wsX30)
def wsX3_come : List Cond := .code yX3_come cX3_come 4 (some (.object "CuckooShopLaw$Clock")) :: ([.fieldLink RX3 9 "CuckooShopLaw$Sim" "clocks" "[LCuckooShopLaw$Clock;", .classLink RX3 7 RX2, .instantiable RX2 14, .initialized RX2, .fieldLink RX3 25 "CuckooShopLaw$Clock" "shows" "I", .instanceMethod yX2_init, .code yX2_init cX2_init 1 none, .methodLink RX2 1 objectInit, .instanceMethod objectInit, .code objectInit ⟨#[0xb1]⟩ 1 none, .fieldLink RX2 7 "CuckooShopLaw$Clock" "a" "I", .fieldLink RX2 13 "CuckooShopLaw$Clock" "b" "I", .fieldLink RX2 16 "CuckooShopLaw$Clock" "chain" "I", .fieldLink RX2 19 "CuckooShopLaw$Clock" "oil" "I", .fieldLink RX2 22 "CuckooShopLaw$Clock" "bellows" "I", .fieldLink RX2 25 "CuckooShopLaw$Clock" "goes" "Z", .fieldLink RX2 29 "CuckooShopLaw$Clock" "from" "I"] ++ wsX30 ++ wsX20)
def wsX3_pass_r1 : List Cond := [Cond.fieldLink RX3 9 "CuckooShopLaw$Sim" "clocks" "[LCuckooShopLaw$Clock;", Cond.fieldLink RX3 20 "CuckooShopLaw$Sim" "minute" "I", Cond.fieldLink RX3 32 "CuckooShopLaw$Clock" "latest" "I", Cond.methodLink RX3 28 yX2_pass, Cond.instanceMethod yX2_pass, Cond.selects RX2 yX2_pass yX2_pass, Cond.initialized RX2, Cond.code yX2_pass cX2_pass 4 none, Cond.fieldLink RX2 45 "CuckooShopLaw$Clock" "latest" "I", Cond.fieldLink RX2 25 "CuckooShopLaw$Clock" "goes" "Z", Cond.fieldLink RX2 39 "CuckooShopLaw$Clock" "rest" "I", Cond.fieldLink RX2 7 "CuckooShopLaw$Clock" "a" "I", Cond.fieldLink RX2 13 "CuckooShopLaw$Clock" "b" "I", Cond.fieldLink RX2 36 "CuckooShopLaw$Clock" "shows" "I", Cond.fieldLink RX2 22 "CuckooShopLaw$Clock" "bellows" "I", Cond.fieldLink RX2 56 "CuckooShopLaw$Clock" "calls" "I", Cond.fieldLink RX2 59 "CuckooShopLaw$Clock" "missed" "I", Cond.fieldLink RX2 16 "CuckooShopLaw$Clock" "chain" "I", Cond.fieldLink RX2 19 "CuckooShopLaw$Clock" "oil" "I", Cond.methodLink RX2 48 yX2_advance, Cond.instanceMethod yX2_advance, Cond.selects RX2 yX2_advance yX2_advance, Cond.code yX2_advance cX2_advance 4 (some .int), Cond.fieldLink RX2 33 "CuckooShopLaw$Clock" "swing" "I"]
def wsX3_pass_r2 : List Cond := [Cond.methodLink RX2 52 yX2_isShut, Cond.instanceMethod yX2_isShut, Cond.selects RX2 yX2_isShut yX2_isShut, Cond.code yX2_isShut cX2_isShut 2 (some .boolean), Cond.fieldLink RX2 29 "CuckooShopLaw$Clock" "from" "I", Cond.fieldLink RX2 42 "CuckooShopLaw$Clock" "till" "I"]
def wsX3_pass : List Cond := .code yX3_pass cX3_pass 6 (some .int) :: ((wsX3_pass_r1 ++ wsX3_pass_r2) ++ wsX30 ++ wsX20)
def wsX3_go : List Cond := .code yX3_go cX3_go 6 (some .int) :: ([.fieldLink RX3 9 "CuckooShopLaw$Sim" "clocks" "[LCuckooShopLaw$Clock;", .fieldLink RX3 38 "CuckooShopLaw$Clock" "goes" "Z"] ++ wsX30 ++ wsX20)
def wsX3_off : List Cond := .code yX3_off cX3_off 6 (some .int) :: ([.fieldLink RX3 9 "CuckooShopLaw$Sim" "clocks" "[LCuckooShopLaw$Clock;", .fieldLink RX3 20 "CuckooShopLaw$Sim" "minute" "I", .methodLink RX3 46 Lib.Math.abs.name, .static Lib.Math.abs.name, .initialized "java/lang/Math", .code Lib.Math.abs.name Lib.Math.abs.code 1 (some .int), .methodLink RX3 42 yX2_off, .instanceMethod yX2_off, .selects RX2 yX2_off yX2_off, .initialized RX2, .code yX2_off cX2_off 3 (some .int), .fieldLink RX2 36 "CuckooShopLaw$Clock" "shows" "I"] ++ wsX30 ++ wsX20)
def wsX3_isSame_r1 : List Cond := [Cond.fieldLink RX3 9 "CuckooShopLaw$Sim" "clocks" "[LCuckooShopLaw$Clock;", Cond.arrayClass .int, Cond.fieldLink RX3 25 "CuckooShopLaw$Clock" "shows" "I", Cond.fieldLink RX3 51 "CuckooShopLaw$Clock" "rest" "I", Cond.fieldLink RX3 54 "CuckooShopLaw$Clock" "chain" "I", Cond.fieldLink RX3 57 "CuckooShopLaw$Clock" "oil" "I", Cond.fieldLink RX3 60 "CuckooShopLaw$Clock" "bellows" "I", Cond.fieldLink RX3 38 "CuckooShopLaw$Clock" "goes" "Z", Cond.fieldLink RX3 63 "CuckooShopLaw$Clock" "a" "I", Cond.fieldLink RX3 66 "CuckooShopLaw$Clock" "b" "I", Cond.fieldLink RX3 73 "CuckooShopLaw$Clock" "calls" "I", Cond.fieldLink RX3 35 "CuckooShopLaw$Clock" "missed" "I", Cond.fieldLink RX3 32 "CuckooShopLaw$Clock" "latest" "I", Cond.fieldLink RX3 20 "CuckooShopLaw$Sim" "minute" "I", Cond.methodLink RX3 69 yX2_advance, Cond.instanceMethod yX2_advance, Cond.selects RX2 yX2_advance yX2_advance, Cond.initialized RX2, Cond.code yX2_advance cX2_advance 4 (some .int), Cond.fieldLink RX2 33 "CuckooShopLaw$Clock" "swing" "I", Cond.fieldLink RX2 19 "CuckooShopLaw$Clock" "oil" "I", Cond.methodLink RX3 76 yX2_isShut, Cond.instanceMethod yX2_isShut, Cond.selects RX2 yX2_isShut yX2_isShut]
def wsX3_isSame_r2 : List Cond := [Cond.code yX2_isShut cX2_isShut 2 (some .boolean), Cond.fieldLink RX2 29 "CuckooShopLaw$Clock" "from" "I", Cond.fieldLink RX2 42 "CuckooShopLaw$Clock" "till" "I", Cond.methodLink RX3 80 yX1_clock, Cond.instanceMethod yX1_clock, Cond.selects RX1 yX1_clock yX1_clock, Cond.initialized RX1, Cond.code yX1_clock cX1_clock 3 (some .int), Cond.classLink RX1 86 "java/lang/IndexOutOfBoundsException", Cond.initialized "java/lang/IndexOutOfBoundsException", Cond.fieldLink RX1 11 "CuckooShop" "clocks" "[LCuckooShop$Clock;", Cond.methodLink RX1 40 yX1_checkClock, Cond.instanceMethod yX1_checkClock, Cond.selects RX1 yX1_checkClock yX1_checkClock, Cond.code yX1_checkClock cX1_checkClock 2 none, Cond.fieldLink RX1 19 "CuckooShop" "present" "I", Cond.methodLink RX1 43 yX1_isWithin, Cond.static yX1_isWithin, Cond.code yX1_isWithin cX1_isWithin 3 (some .boolean), Cond.instanceMethod yX0_reading, Cond.initialized RX0, Cond.selects RX0 yX0_reading yX0_reading, Cond.code yX0_reading cX0_reading 2 (some .int), Cond.fieldLink RX0 34 "CuckooShop$Clock" "shown" "I"]
def wsX3_isSame_r3 : List Cond := [Cond.fieldLink RX0 37 "CuckooShop$Clock" "rest" "I", Cond.fieldLink RX0 21 "CuckooShop$Clock" "chain" "I", Cond.fieldLink RX0 24 "CuckooShop$Clock" "oil" "I", Cond.fieldLink RX0 27 "CuckooShop$Clock" "bellows" "I", Cond.fieldLink RX0 30 "CuckooShop$Clock" "goes" "Z", Cond.fieldLink RX0 46 "CuckooShop$Clock" "calls" "I", Cond.fieldLink RX0 49 "CuckooShop$Clock" "missed" "I", Cond.fieldLink RX0 52 "CuckooShop$Clock" "latestCalls" "I", Cond.methodLink RX0 73 yX0_advance, Cond.instanceMethod yX0_advance, Cond.selects RX0 yX0_advance yX0_advance, Cond.code yX0_advance cX0_advance 1 (some .int), Cond.fieldLink RX0 9 "CuckooShop$Clock" "gearA" "I", Cond.fieldLink RX0 15 "CuckooShop$Clock" "gearB" "I", Cond.methodLink RX0 55 yX0_advanceWith, Cond.instanceMethod yX0_advanceWith, Cond.selects RX0 yX0_advanceWith yX0_advanceWith, Cond.code yX0_advanceWith cX0_advanceWith 4 (some .int), Cond.fieldLink RX0 18 "CuckooShop$Clock" "swing" "I", Cond.methodLink RX0 77 yX0_isShutAt, Cond.instanceMethod yX0_isShutAt, Cond.selects RX0 yX0_isShutAt yX0_isShutAt, Cond.code yX0_isShutAt cX0_isShutAt 2 (some .boolean), Cond.fieldLink RX0 40 "CuckooShop$Clock" "shutFrom" "I"]
def wsX3_isSame_r4 : List Cond := [Cond.fieldLink RX0 43 "CuckooShop$Clock" "shutTill" "I", Cond.methodLink RX3 85 yX1_off, Cond.instanceMethod yX1_off, Cond.selects RX1 yX1_off yX1_off, Cond.code yX1_off cX1_off 2 (some .int), Cond.fieldLink RX1 23 "CuckooShop" "minute" "I", Cond.methodLink RX1 62 yX1_offOf, Cond.static yX1_offOf, Cond.code yX1_offOf cX1_offOf 3 (some .int), Cond.methodLink RX1 160 yX1_trueTime, Cond.static yX1_trueTime, Cond.code yX1_trueTime cX1_trueTime 1 (some .int), Cond.methodLink RX1 152 yJ9_floorMod_7cf53, Cond.static yJ9_floorMod_7cf53, Cond.initialized RJ9, Cond.code yJ9_floorMod_7cf53 cJ9_floorMod_7cf53 3 (some .int), Cond.methodLink RX3 42 yX2_off, Cond.instanceMethod yX2_off, Cond.selects RX2 yX2_off yX2_off, Cond.code yX2_off cX2_off 3 (some .int), Cond.fieldLink RX2 36 "CuckooShopLaw$Clock" "shows" "I", Cond.methodLink RX3 86 yX1_stands, Cond.instanceMethod yX1_stands, Cond.selects RX1 yX1_stands yX1_stands]
def wsX3_isSame_r5 : List Cond := [Cond.code yX1_stands cX1_stands 2 (some .int), Cond.instanceMethod yX0_minutesToStand, Cond.selects RX0 yX0_minutesToStand yX0_minutesToStand, Cond.code yX0_minutesToStand cX0_minutesToStand 1 (some .int), Cond.methodLink RX3 89 yX3_go, Cond.instanceMethod yX3_go, Cond.selects RX3 yX3_go yX3_go, Cond.initialized RX3, Cond.code yX3_go cX3_go 6 (some .int), Cond.methodLink RX3 93 yX3_off, Cond.instanceMethod yX3_off, Cond.selects RX3 yX3_off yX3_off, Cond.code yX3_off cX3_off 6 (some .int), Cond.methodLink RX3 46 Lib.Math.abs.name, Cond.static Lib.Math.abs.name, Cond.initialized "java/lang/Math", Cond.code Lib.Math.abs.name Lib.Math.abs.code 1 (some .int), Cond.methodLink RX3 95 yX1_count, Cond.instanceMethod yX1_count, Cond.selects RX1 yX1_count yX1_count, Cond.code yX1_count cX1_count 2 (some .int), Cond.methodLink RX1 97 yX1_tally, Cond.instanceMethod yX1_tally, Cond.selects RX1 yX1_tally yX1_tally]
def wsX3_isSame_r6 : List Cond := [Cond.code yX1_tally cX1_tally 2 (some .int), Cond.methodLink RX1 125 yX1_sumOf, Cond.instanceMethod yX1_sumOf, Cond.selects RX1 yX1_sumOf yX1_sumOf, Cond.code yX1_sumOf cX1_sumOf 5 (some .int), Cond.methodLink RX1 163 yX1_trueClocks, Cond.instanceMethod yX1_trueClocks, Cond.selects RX1 yX1_trueClocks yX1_trueClocks, Cond.code yX1_trueClocks cX1_trueClocks 3 (some .int), Cond.methodLink RX1 128 yX1_offOfAll, Cond.instanceMethod yX1_offOfAll, Cond.selects RX1 yX1_offOfAll yX1_offOfAll, Cond.code yX1_offOfAll cX1_offOfAll 5 (some .int), Cond.methodLink RX1 166 Lib.Math.abs.name, Cond.methodLink RX3 98 yX1_mean, Cond.instanceMethod yX1_mean, Cond.selects RX1 yX1_mean yX1_mean, Cond.code yX1_mean cX1_mean 4 (some .double)]
def wsX3_isSame : List Cond := .code yX3_isSame cX3_isSame 10 (some .boolean) :: ((wsX3_isSame_r1 ++ (wsX3_isSame_r2 ++ (wsX3_isSame_r3 ++ (wsX3_isSame_r4 ++ (wsX3_isSame_r5 ++ wsX3_isSame_r6))))) ++ wsX30 ++ wsX20 ++ wsX10 ++ wsX00 ++ (vx_atS RX1 90 "java/lang/IndexOutOfBoundsException" ["java/lang/RuntimeException", "java/lang/Exception"]).filter goodWord)
def wsJ9_abs_0f7a4 : List Cond := .code yJ9_abs_0f7a4 cJ9_abs_0f7a4 1 (some .int) :: ([])
def wsJ9_max_7cf53 : List Cond := .code yJ9_max_7cf53 cJ9_max_7cf53 2 (some .int) :: ([])
def wsJ9_min_7cf53 : List Cond := .code yJ9_min_7cf53 cJ9_min_7cf53 2 (some .int) :: ([])
def wsL_below : List Cond := .code yL_below cL_below 2 (some .int) :: ([.constant RL 7 (2147483647)])
def wsL_cell : List Cond := .code yL_cell cL_cell 2 (some .int) :: ([.constant RL 8 (790386105)])
def wsL_act_r1 : List Cond := [Cond.fieldLink RL 9 "CuckooShopLaw$Sim" "clocks" "[LCuckooShopLaw$Clock;", Cond.fieldLink RL 30 "CuckooShopLaw$Clock" "a" "I", Cond.fieldLink RL 36 "CuckooShopLaw$Clock" "b" "I", Cond.fieldLink RL 39 "CuckooShopLaw$Clock" "swing" "I", Cond.fieldLink RL 49 "CuckooShopLaw$Sim" "minute" "I", Cond.fieldLink RL 55 "CuckooShopLaw$Clock" "shows" "I", Cond.fieldLink RL 58 "CuckooShopLaw$Clock" "rest" "I", Cond.fieldLink RL 64 "CuckooShopLaw$Clock" "chain" "I", Cond.fieldLink RL 67 "CuckooShopLaw$Clock" "goes" "Z", Cond.fieldLink RL 77 "CuckooShopLaw$Clock" "oil" "I", Cond.fieldLink RL 80 "CuckooShopLaw$Clock" "bellows" "I", Cond.fieldLink RL 83 "CuckooShopLaw$Clock" "from" "I", Cond.fieldLink RL 86 "CuckooShopLaw$Clock" "till" "I", Cond.methodLink RL 15 yL_below, Cond.static yL_below, Cond.initialized RL, Cond.code yL_below cL_below 2 (some .int), Cond.constant RL 7 (2147483647), Cond.methodLink RL 21 yX3_come, Cond.instanceMethod yX3_come, Cond.selects RX3 yX3_come yX3_come, Cond.initialized RX3, Cond.code yX3_come cX3_come 4 (some (.object "CuckooShopLaw$Clock")), Cond.fieldLink RX3 9 "CuckooShopLaw$Sim" "clocks" "[LCuckooShopLaw$Clock;"]
def wsL_act_r2 : List Cond := [Cond.classLink RX3 7 RX2, Cond.instantiable RX2 14, Cond.initialized RX2, Cond.fieldLink RX3 25 "CuckooShopLaw$Clock" "shows" "I", Cond.instanceMethod yX2_init, Cond.code yX2_init cX2_init 1 none, Cond.methodLink RX2 1 objectInit, Cond.instanceMethod objectInit, Cond.code objectInit ⟨#[0xb1]⟩ 1 none, Cond.fieldLink RX2 7 "CuckooShopLaw$Clock" "a" "I", Cond.fieldLink RX2 13 "CuckooShopLaw$Clock" "b" "I", Cond.fieldLink RX2 16 "CuckooShopLaw$Clock" "chain" "I", Cond.fieldLink RX2 19 "CuckooShopLaw$Clock" "oil" "I", Cond.fieldLink RX2 22 "CuckooShopLaw$Clock" "bellows" "I", Cond.fieldLink RX2 25 "CuckooShopLaw$Clock" "goes" "Z", Cond.fieldLink RX2 29 "CuckooShopLaw$Clock" "from" "I", Cond.methodLink RL 25 yX1_come, Cond.instanceMethod yX1_come, Cond.selects RX1 yX1_come yX1_come, Cond.initialized RX1, Cond.code yX1_come cX1_come 2 (some .int), Cond.classLink RX1 30 "java/lang/IllegalStateException", Cond.initialized "java/lang/IllegalStateException", Cond.fieldLink RX1 19 "CuckooShop" "present" "I"]
def wsL_act_r3 : List Cond := [Cond.fieldLink RX1 11 "CuckooShop" "clocks" "[LCuckooShop$Clock;", Cond.methodLink RX1 26 yX1_checkTime, Cond.static yX1_checkTime, Cond.code yX1_checkTime cX1_checkTime 1 none, Cond.classLink RX1 47 "java/lang/IllegalArgumentException", Cond.initialized "java/lang/IllegalArgumentException", Cond.methodLink RX1 43 yX1_isWithin, Cond.static yX1_isWithin, Cond.code yX1_isWithin cX1_isWithin 3 (some .boolean), Cond.instanceMethod yX0_putHands, Cond.initialized RX0, Cond.selects RX0 yX0_putHands yX0_putHands, Cond.code yX0_putHands cX0_putHands 2 none, Cond.fieldLink RX0 34 "CuckooShop$Clock" "shown" "I", Cond.fieldLink RX0 37 "CuckooShop$Clock" "rest" "I", Cond.methodLink RL 42 yX1_gear, Cond.instanceMethod yX1_gear, Cond.selects RX1 yX1_gear yX1_gear, Cond.code yX1_gear cX1_gear 5 (some .int), Cond.methodLink RX1 40 yX1_checkClock, Cond.instanceMethod yX1_checkClock, Cond.selects RX1 yX1_checkClock yX1_checkClock, Cond.code yX1_checkClock cX1_checkClock 2 none, Cond.classLink RX1 86 "java/lang/IndexOutOfBoundsException"]
def wsL_act_r4 : List Cond := [Cond.initialized "java/lang/IndexOutOfBoundsException", Cond.instanceMethod yX0_fitTrain, Cond.selects RX0 yX0_fitTrain yX0_fitTrain, Cond.code yX0_fitTrain cX0_fitTrain 4 none, Cond.fieldLink RX0 9 "CuckooShop$Clock" "gearA" "I", Cond.fieldLink RX0 15 "CuckooShop$Clock" "gearB" "I", Cond.fieldLink RX0 18 "CuckooShop$Clock" "swing" "I", Cond.instanceMethod yX0_advance, Cond.selects RX0 yX0_advance yX0_advance, Cond.code yX0_advance cX0_advance 1 (some .int), Cond.methodLink RX0 55 yX0_advanceWith, Cond.instanceMethod yX0_advanceWith, Cond.selects RX0 yX0_advanceWith yX0_advanceWith, Cond.code yX0_advanceWith cX0_advanceWith 4 (some .int), Cond.fieldLink RX0 24 "CuckooShop$Clock" "oil" "I", Cond.methodLink RL 46 yX2_advance, Cond.instanceMethod yX2_advance, Cond.selects RX2 yX2_advance yX2_advance, Cond.code yX2_advance cX2_advance 4 (some .int), Cond.fieldLink RX2 33 "CuckooShopLaw$Clock" "swing" "I", Cond.methodLink RL 52 yX2_off, Cond.instanceMethod yX2_off, Cond.selects RX2 yX2_off yX2_off, Cond.code yX2_off cX2_off 3 (some .int)]
def wsL_act_r5 : List Cond := [Cond.fieldLink RX2 36 "CuckooShopLaw$Clock" "shows" "I", Cond.methodLink RL 61 yX1_set, Cond.instanceMethod yX1_set, Cond.selects RX1 yX1_set yX1_set, Cond.code yX1_set cX1_set 4 (some .int), Cond.fieldLink RX1 23 "CuckooShop" "minute" "I", Cond.methodLink RX1 62 yX1_offOf, Cond.static yX1_offOf, Cond.code yX1_offOf cX1_offOf 3 (some .int), Cond.methodLink RX1 160 yX1_trueTime, Cond.static yX1_trueTime, Cond.code yX1_trueTime cX1_trueTime 1 (some .int), Cond.methodLink RX1 152 yJ9_floorMod_7cf53, Cond.static yJ9_floorMod_7cf53, Cond.initialized RJ9, Cond.code yJ9_floorMod_7cf53 cJ9_floorMod_7cf53 3 (some .int), Cond.methodLink RL 71 yX1_wind, Cond.instanceMethod yX1_wind, Cond.selects RX1 yX1_wind yX1_wind, Cond.code yX1_wind cX1_wind 2 (some .int), Cond.instanceMethod yX0_drawUp, Cond.selects RX0 yX0_drawUp yX0_drawUp, Cond.code yX0_drawUp cX0_drawUp 2 (some .int), Cond.fieldLink RX0 21 "CuckooShop$Clock" "chain" "I"]
def wsL_act_r6 : List Cond := [Cond.fieldLink RX0 30 "CuckooShop$Clock" "goes" "Z", Cond.methodLink RL 74 yX1_mend, Cond.instanceMethod yX1_mend, Cond.selects RX1 yX1_mend yX1_mend, Cond.code yX1_mend cX1_mend 3 (some .int), Cond.instanceMethod yX0_fillOil, Cond.selects RX0 yX0_fillOil yX0_fillOil, Cond.code yX0_fillOil cX0_fillOil 2 (some .int), Cond.instanceMethod yX0_patchBellows, Cond.selects RX0 yX0_patchBellows yX0_patchBellows, Cond.code yX0_patchBellows cX0_patchBellows 2 (some .int), Cond.fieldLink RX0 27 "CuckooShop$Clock" "bellows" "I", Cond.instanceMethod yX0_nudge, Cond.selects RX0 yX0_nudge yX0_nudge, Cond.code yX0_nudge cX0_nudge 1 (some .int), Cond.methodLink RL 89 yX1_shut, Cond.instanceMethod yX1_shut, Cond.selects RX1 yX1_shut yX1_shut, Cond.code yX1_shut cX1_shut 4 (some .int), Cond.instanceMethod yX0_silence, Cond.selects RX0 yX0_silence yX0_silence, Cond.code yX0_silence cX0_silence 4 (some .int), Cond.fieldLink RX0 40 "CuckooShop$Clock" "shutFrom" "I", Cond.fieldLink RX0 43 "CuckooShop$Clock" "shutTill" "I"]
def wsL_act : List Cond := .code yL_act cL_act 12 (some .boolean) :: ((wsL_act_r1 ++ (wsL_act_r2 ++ (wsL_act_r3 ++ (wsL_act_r4 ++ (wsL_act_r5 ++ wsL_act_r6))))) ++ wsX30 ++ wsX20 ++ wsX10 ++ wsX00 ++ (vx_atS RX1 34 "java/lang/IllegalStateException" ["java/lang/RuntimeException", "java/lang/Exception"]).filter goodWord ++ (vx_atS RX1 51 "java/lang/IllegalArgumentException" ["java/lang/RuntimeException", "java/lang/Exception"]).filter goodWord ++ (vx_atS RX1 90 "java/lang/IndexOutOfBoundsException" ["java/lang/RuntimeException", "java/lang/Exception"]).filter goodWord)
def wsL_build_r1 : List Cond := [Cond.classLink RL 10 RX3, Cond.instantiable RX3 2, Cond.initialized RX3, Cond.instanceMethod yX3_init, Cond.code yX3_init cX3_init 1 none, Cond.methodLink RX3 1 objectInit, Cond.instanceMethod objectInit, Cond.code objectInit ⟨#[0xb1]⟩ 1 none, Cond.classLink RX3 7 RX2, Cond.fieldLink RX3 9 "CuckooShopLaw$Sim" "clocks" "[LCuckooShopLaw$Clock;", Cond.methodLink RL 94 yL_cell, Cond.static yL_cell, Cond.initialized RL, Cond.code yL_cell cL_cell 2 (some .int), Cond.constant RL 8 (790386105), Cond.methodLink RL 98 yL_act, Cond.static yL_act, Cond.code yL_act cL_act 12 (some .boolean), Cond.fieldLink RL 9 "CuckooShopLaw$Sim" "clocks" "[LCuckooShopLaw$Clock;", Cond.fieldLink RL 30 "CuckooShopLaw$Clock" "a" "I", Cond.fieldLink RL 36 "CuckooShopLaw$Clock" "b" "I", Cond.fieldLink RL 39 "CuckooShopLaw$Clock" "swing" "I", Cond.fieldLink RL 49 "CuckooShopLaw$Sim" "minute" "I", Cond.fieldLink RL 55 "CuckooShopLaw$Clock" "shows" "I"]
def wsL_build_r2 : List Cond := [Cond.fieldLink RL 58 "CuckooShopLaw$Clock" "rest" "I", Cond.fieldLink RL 64 "CuckooShopLaw$Clock" "chain" "I", Cond.fieldLink RL 67 "CuckooShopLaw$Clock" "goes" "Z", Cond.fieldLink RL 77 "CuckooShopLaw$Clock" "oil" "I", Cond.fieldLink RL 80 "CuckooShopLaw$Clock" "bellows" "I", Cond.fieldLink RL 83 "CuckooShopLaw$Clock" "from" "I", Cond.fieldLink RL 86 "CuckooShopLaw$Clock" "till" "I", Cond.methodLink RL 15 yL_below, Cond.static yL_below, Cond.code yL_below cL_below 2 (some .int), Cond.constant RL 7 (2147483647), Cond.methodLink RL 21 yX3_come, Cond.instanceMethod yX3_come, Cond.selects RX3 yX3_come yX3_come, Cond.code yX3_come cX3_come 4 (some (.object "CuckooShopLaw$Clock")), Cond.instantiable RX2 14, Cond.initialized RX2, Cond.fieldLink RX3 25 "CuckooShopLaw$Clock" "shows" "I", Cond.instanceMethod yX2_init, Cond.code yX2_init cX2_init 1 none, Cond.methodLink RX2 1 objectInit, Cond.fieldLink RX2 7 "CuckooShopLaw$Clock" "a" "I", Cond.fieldLink RX2 13 "CuckooShopLaw$Clock" "b" "I", Cond.fieldLink RX2 16 "CuckooShopLaw$Clock" "chain" "I"]
def wsL_build_r3 : List Cond := [Cond.fieldLink RX2 19 "CuckooShopLaw$Clock" "oil" "I", Cond.fieldLink RX2 22 "CuckooShopLaw$Clock" "bellows" "I", Cond.fieldLink RX2 25 "CuckooShopLaw$Clock" "goes" "Z", Cond.fieldLink RX2 29 "CuckooShopLaw$Clock" "from" "I", Cond.methodLink RL 25 yX1_come, Cond.instanceMethod yX1_come, Cond.selects RX1 yX1_come yX1_come, Cond.initialized RX1, Cond.code yX1_come cX1_come 2 (some .int), Cond.classLink RX1 30 "java/lang/IllegalStateException", Cond.initialized "java/lang/IllegalStateException", Cond.fieldLink RX1 19 "CuckooShop" "present" "I", Cond.fieldLink RX1 11 "CuckooShop" "clocks" "[LCuckooShop$Clock;", Cond.methodLink RX1 26 yX1_checkTime, Cond.static yX1_checkTime, Cond.code yX1_checkTime cX1_checkTime 1 none, Cond.classLink RX1 47 "java/lang/IllegalArgumentException", Cond.initialized "java/lang/IllegalArgumentException", Cond.methodLink RX1 43 yX1_isWithin, Cond.static yX1_isWithin, Cond.code yX1_isWithin cX1_isWithin 3 (some .boolean), Cond.instanceMethod yX0_putHands, Cond.initialized RX0, Cond.selects RX0 yX0_putHands yX0_putHands]
def wsL_build_r4 : List Cond := [Cond.code yX0_putHands cX0_putHands 2 none, Cond.fieldLink RX0 34 "CuckooShop$Clock" "shown" "I", Cond.fieldLink RX0 37 "CuckooShop$Clock" "rest" "I", Cond.methodLink RL 42 yX1_gear, Cond.instanceMethod yX1_gear, Cond.selects RX1 yX1_gear yX1_gear, Cond.code yX1_gear cX1_gear 5 (some .int), Cond.methodLink RX1 40 yX1_checkClock, Cond.instanceMethod yX1_checkClock, Cond.selects RX1 yX1_checkClock yX1_checkClock, Cond.code yX1_checkClock cX1_checkClock 2 none, Cond.classLink RX1 86 "java/lang/IndexOutOfBoundsException", Cond.initialized "java/lang/IndexOutOfBoundsException", Cond.instanceMethod yX0_fitTrain, Cond.selects RX0 yX0_fitTrain yX0_fitTrain, Cond.code yX0_fitTrain cX0_fitTrain 4 none, Cond.fieldLink RX0 9 "CuckooShop$Clock" "gearA" "I", Cond.fieldLink RX0 15 "CuckooShop$Clock" "gearB" "I", Cond.fieldLink RX0 18 "CuckooShop$Clock" "swing" "I", Cond.instanceMethod yX0_advance, Cond.selects RX0 yX0_advance yX0_advance, Cond.code yX0_advance cX0_advance 1 (some .int), Cond.methodLink RX0 55 yX0_advanceWith, Cond.instanceMethod yX0_advanceWith]
def wsL_build_r5 : List Cond := [Cond.selects RX0 yX0_advanceWith yX0_advanceWith, Cond.code yX0_advanceWith cX0_advanceWith 4 (some .int), Cond.fieldLink RX0 24 "CuckooShop$Clock" "oil" "I", Cond.methodLink RL 46 yX2_advance, Cond.instanceMethod yX2_advance, Cond.selects RX2 yX2_advance yX2_advance, Cond.code yX2_advance cX2_advance 4 (some .int), Cond.fieldLink RX2 33 "CuckooShopLaw$Clock" "swing" "I", Cond.methodLink RL 52 yX2_off, Cond.instanceMethod yX2_off, Cond.selects RX2 yX2_off yX2_off, Cond.code yX2_off cX2_off 3 (some .int), Cond.fieldLink RX2 36 "CuckooShopLaw$Clock" "shows" "I", Cond.methodLink RL 61 yX1_set, Cond.instanceMethod yX1_set, Cond.selects RX1 yX1_set yX1_set, Cond.code yX1_set cX1_set 4 (some .int), Cond.fieldLink RX1 23 "CuckooShop" "minute" "I", Cond.methodLink RX1 62 yX1_offOf, Cond.static yX1_offOf, Cond.code yX1_offOf cX1_offOf 3 (some .int), Cond.methodLink RX1 160 yX1_trueTime, Cond.static yX1_trueTime, Cond.code yX1_trueTime cX1_trueTime 1 (some .int)]
def wsL_build_r6 : List Cond := [Cond.methodLink RX1 152 yJ9_floorMod_7cf53, Cond.static yJ9_floorMod_7cf53, Cond.initialized RJ9, Cond.code yJ9_floorMod_7cf53 cJ9_floorMod_7cf53 3 (some .int), Cond.methodLink RL 71 yX1_wind, Cond.instanceMethod yX1_wind, Cond.selects RX1 yX1_wind yX1_wind, Cond.code yX1_wind cX1_wind 2 (some .int), Cond.instanceMethod yX0_drawUp, Cond.selects RX0 yX0_drawUp yX0_drawUp, Cond.code yX0_drawUp cX0_drawUp 2 (some .int), Cond.fieldLink RX0 21 "CuckooShop$Clock" "chain" "I", Cond.fieldLink RX0 30 "CuckooShop$Clock" "goes" "Z", Cond.methodLink RL 74 yX1_mend, Cond.instanceMethod yX1_mend, Cond.selects RX1 yX1_mend yX1_mend, Cond.code yX1_mend cX1_mend 3 (some .int), Cond.instanceMethod yX0_fillOil, Cond.selects RX0 yX0_fillOil yX0_fillOil, Cond.code yX0_fillOil cX0_fillOil 2 (some .int), Cond.instanceMethod yX0_patchBellows, Cond.selects RX0 yX0_patchBellows yX0_patchBellows, Cond.code yX0_patchBellows cX0_patchBellows 2 (some .int), Cond.fieldLink RX0 27 "CuckooShop$Clock" "bellows" "I"]
def wsL_build_r7 : List Cond := [Cond.instanceMethod yX0_nudge, Cond.selects RX0 yX0_nudge yX0_nudge, Cond.code yX0_nudge cX0_nudge 1 (some .int), Cond.methodLink RL 89 yX1_shut, Cond.instanceMethod yX1_shut, Cond.selects RX1 yX1_shut yX1_shut, Cond.code yX1_shut cX1_shut 4 (some .int), Cond.instanceMethod yX0_silence, Cond.selects RX0 yX0_silence yX0_silence, Cond.code yX0_silence cX0_silence 4 (some .int), Cond.fieldLink RX0 40 "CuckooShop$Clock" "shutFrom" "I", Cond.fieldLink RX0 43 "CuckooShop$Clock" "shutTill" "I"]
def wsL_build : List Cond := .code yL_build cL_build 4 (some (.object "CuckooShopLaw$Sim")) :: ((wsL_build_r1 ++ (wsL_build_r2 ++ (wsL_build_r3 ++ (wsL_build_r4 ++ (wsL_build_r5 ++ (wsL_build_r6 ++ wsL_build_r7)))))) ++ wsX30 ++ wsX20 ++ wsX10 ++ wsX00 ++ (vx_atS RX1 34 "java/lang/IllegalStateException" ["java/lang/RuntimeException", "java/lang/Exception"]).filter goodWord ++ (vx_atS RX1 51 "java/lang/IllegalArgumentException" ["java/lang/RuntimeException", "java/lang/Exception"]).filter goodWord ++ (vx_atS RX1 90 "java/lang/IndexOutOfBoundsException" ["java/lang/RuntimeException", "java/lang/Exception"]).filter goodWord)
def wsL_law0_r1 : List Cond := [Cond.classLink RL 26 RX1, Cond.instantiable RX1 4, Cond.initialized RX1, Cond.classLink RL 116 "[[I", Cond.arrayClass .int, Cond.methodLink RL 130 Lib.Math.max.name, Cond.static Lib.Math.max.name, Cond.initialized "java/lang/Math", Cond.code Lib.Math.max.name Lib.Math.max.code 2 (some .int), Cond.fieldLink RL 9 "CuckooShopLaw$Sim" "clocks" "[LCuckooShopLaw$Clock;", Cond.methodLink RL 102 yX1_init, Cond.instanceMethod yX1_init, Cond.code yX1_init cX1_init 2 none, Cond.methodLink RX1 1 objectInit, Cond.instanceMethod objectInit, Cond.code objectInit ⟨#[0xb1]⟩ 1 none, Cond.classLink RX1 9 RX0, Cond.fieldLink RX1 11 "CuckooShop" "clocks" "[LCuckooShop$Clock;", Cond.fieldLink RX1 15 "CuckooShop" "copies" "[LCuckooShop$Clock;", Cond.instantiable RX0 14, Cond.initialized RX0, Cond.fieldLink RX1 19 "CuckooShop" "present" "I", Cond.fieldLink RX1 23 "CuckooShop" "minute" "I", Cond.instanceMethod yX0_init]
def wsL_law0_r2 : List Cond := [Cond.code yX0_init cX0_init 1 none, Cond.methodLink RX0 3 objectInit, Cond.fieldLink RX0 9 "CuckooShop$Clock" "gearA" "I", Cond.fieldLink RX0 15 "CuckooShop$Clock" "gearB" "I", Cond.fieldLink RX0 18 "CuckooShop$Clock" "swing" "I", Cond.fieldLink RX0 21 "CuckooShop$Clock" "chain" "I", Cond.fieldLink RX0 24 "CuckooShop$Clock" "oil" "I", Cond.fieldLink RX0 27 "CuckooShop$Clock" "bellows" "I", Cond.fieldLink RX0 30 "CuckooShop$Clock" "goes" "Z", Cond.fieldLink RX0 34 "CuckooShop$Clock" "shown" "I", Cond.fieldLink RX0 37 "CuckooShop$Clock" "rest" "I", Cond.fieldLink RX0 40 "CuckooShop$Clock" "shutFrom" "I", Cond.fieldLink RX0 43 "CuckooShop$Clock" "shutTill" "I", Cond.fieldLink RX0 46 "CuckooShop$Clock" "calls" "I", Cond.fieldLink RX0 49 "CuckooShop$Clock" "missed" "I", Cond.fieldLink RX0 52 "CuckooShop$Clock" "latestCalls" "I", Cond.methodLink RL 103 yL_build, Cond.static yL_build, Cond.initialized RL, Cond.code yL_build cL_build 4 (some (.object "CuckooShopLaw$Sim")), Cond.classLink RL 10 RX3, Cond.instantiable RX3 2, Cond.initialized RX3, Cond.instanceMethod yX3_init]
def wsL_law0_r3 : List Cond := [Cond.code yX3_init cX3_init 1 none, Cond.methodLink RX3 1 objectInit, Cond.classLink RX3 7 RX2, Cond.fieldLink RX3 9 "CuckooShopLaw$Sim" "clocks" "[LCuckooShopLaw$Clock;", Cond.methodLink RL 94 yL_cell, Cond.static yL_cell, Cond.code yL_cell cL_cell 2 (some .int), Cond.constant RL 8 (790386105), Cond.methodLink RL 98 yL_act, Cond.static yL_act, Cond.code yL_act cL_act 12 (some .boolean), Cond.fieldLink RL 30 "CuckooShopLaw$Clock" "a" "I", Cond.fieldLink RL 36 "CuckooShopLaw$Clock" "b" "I", Cond.fieldLink RL 39 "CuckooShopLaw$Clock" "swing" "I", Cond.fieldLink RL 49 "CuckooShopLaw$Sim" "minute" "I", Cond.fieldLink RL 55 "CuckooShopLaw$Clock" "shows" "I", Cond.fieldLink RL 58 "CuckooShopLaw$Clock" "rest" "I", Cond.fieldLink RL 64 "CuckooShopLaw$Clock" "chain" "I", Cond.fieldLink RL 67 "CuckooShopLaw$Clock" "goes" "Z", Cond.fieldLink RL 77 "CuckooShopLaw$Clock" "oil" "I", Cond.fieldLink RL 80 "CuckooShopLaw$Clock" "bellows" "I", Cond.fieldLink RL 83 "CuckooShopLaw$Clock" "from" "I", Cond.fieldLink RL 86 "CuckooShopLaw$Clock" "till" "I", Cond.methodLink RL 15 yL_below]
def wsL_law0_r4 : List Cond := [Cond.static yL_below, Cond.code yL_below cL_below 2 (some .int), Cond.constant RL 7 (2147483647), Cond.methodLink RL 21 yX3_come, Cond.instanceMethod yX3_come, Cond.selects RX3 yX3_come yX3_come, Cond.code yX3_come cX3_come 4 (some (.object "CuckooShopLaw$Clock")), Cond.instantiable RX2 14, Cond.initialized RX2, Cond.fieldLink RX3 25 "CuckooShopLaw$Clock" "shows" "I", Cond.instanceMethod yX2_init, Cond.code yX2_init cX2_init 1 none, Cond.methodLink RX2 1 objectInit, Cond.fieldLink RX2 7 "CuckooShopLaw$Clock" "a" "I", Cond.fieldLink RX2 13 "CuckooShopLaw$Clock" "b" "I", Cond.fieldLink RX2 16 "CuckooShopLaw$Clock" "chain" "I", Cond.fieldLink RX2 19 "CuckooShopLaw$Clock" "oil" "I", Cond.fieldLink RX2 22 "CuckooShopLaw$Clock" "bellows" "I", Cond.fieldLink RX2 25 "CuckooShopLaw$Clock" "goes" "Z", Cond.fieldLink RX2 29 "CuckooShopLaw$Clock" "from" "I", Cond.methodLink RL 25 yX1_come, Cond.instanceMethod yX1_come, Cond.selects RX1 yX1_come yX1_come, Cond.code yX1_come cX1_come 2 (some .int)]
def wsL_law0_r5 : List Cond := [Cond.classLink RX1 30 "java/lang/IllegalStateException", Cond.initialized "java/lang/IllegalStateException", Cond.methodLink RX1 26 yX1_checkTime, Cond.static yX1_checkTime, Cond.code yX1_checkTime cX1_checkTime 1 none, Cond.classLink RX1 47 "java/lang/IllegalArgumentException", Cond.initialized "java/lang/IllegalArgumentException", Cond.methodLink RX1 43 yX1_isWithin, Cond.static yX1_isWithin, Cond.code yX1_isWithin cX1_isWithin 3 (some .boolean), Cond.instanceMethod yX0_putHands, Cond.selects RX0 yX0_putHands yX0_putHands, Cond.code yX0_putHands cX0_putHands 2 none, Cond.methodLink RL 42 yX1_gear, Cond.instanceMethod yX1_gear, Cond.selects RX1 yX1_gear yX1_gear, Cond.code yX1_gear cX1_gear 5 (some .int), Cond.methodLink RX1 40 yX1_checkClock, Cond.instanceMethod yX1_checkClock, Cond.selects RX1 yX1_checkClock yX1_checkClock, Cond.code yX1_checkClock cX1_checkClock 2 none, Cond.classLink RX1 86 "java/lang/IndexOutOfBoundsException", Cond.initialized "java/lang/IndexOutOfBoundsException", Cond.instanceMethod yX0_fitTrain]
def wsL_law0_r6 : List Cond := [Cond.selects RX0 yX0_fitTrain yX0_fitTrain, Cond.code yX0_fitTrain cX0_fitTrain 4 none, Cond.instanceMethod yX0_advance, Cond.selects RX0 yX0_advance yX0_advance, Cond.code yX0_advance cX0_advance 1 (some .int), Cond.methodLink RX0 55 yX0_advanceWith, Cond.instanceMethod yX0_advanceWith, Cond.selects RX0 yX0_advanceWith yX0_advanceWith, Cond.code yX0_advanceWith cX0_advanceWith 4 (some .int), Cond.methodLink RL 46 yX2_advance, Cond.instanceMethod yX2_advance, Cond.selects RX2 yX2_advance yX2_advance, Cond.code yX2_advance cX2_advance 4 (some .int), Cond.fieldLink RX2 33 "CuckooShopLaw$Clock" "swing" "I", Cond.methodLink RL 52 yX2_off, Cond.instanceMethod yX2_off, Cond.selects RX2 yX2_off yX2_off, Cond.code yX2_off cX2_off 3 (some .int), Cond.fieldLink RX2 36 "CuckooShopLaw$Clock" "shows" "I", Cond.methodLink RL 61 yX1_set, Cond.instanceMethod yX1_set, Cond.selects RX1 yX1_set yX1_set, Cond.code yX1_set cX1_set 4 (some .int), Cond.methodLink RX1 62 yX1_offOf]
def wsL_law0_r7 : List Cond := [Cond.static yX1_offOf, Cond.code yX1_offOf cX1_offOf 3 (some .int), Cond.methodLink RX1 160 yX1_trueTime, Cond.static yX1_trueTime, Cond.code yX1_trueTime cX1_trueTime 1 (some .int), Cond.methodLink RX1 152 yJ9_floorMod_7cf53, Cond.static yJ9_floorMod_7cf53, Cond.initialized RJ9, Cond.code yJ9_floorMod_7cf53 cJ9_floorMod_7cf53 3 (some .int), Cond.methodLink RL 71 yX1_wind, Cond.instanceMethod yX1_wind, Cond.selects RX1 yX1_wind yX1_wind, Cond.code yX1_wind cX1_wind 2 (some .int), Cond.instanceMethod yX0_drawUp, Cond.selects RX0 yX0_drawUp yX0_drawUp, Cond.code yX0_drawUp cX0_drawUp 2 (some .int), Cond.methodLink RL 74 yX1_mend, Cond.instanceMethod yX1_mend, Cond.selects RX1 yX1_mend yX1_mend, Cond.code yX1_mend cX1_mend 3 (some .int), Cond.instanceMethod yX0_fillOil, Cond.selects RX0 yX0_fillOil yX0_fillOil, Cond.code yX0_fillOil cX0_fillOil 2 (some .int), Cond.instanceMethod yX0_patchBellows]
def wsL_law0_r8 : List Cond := [Cond.selects RX0 yX0_patchBellows yX0_patchBellows, Cond.code yX0_patchBellows cX0_patchBellows 2 (some .int), Cond.instanceMethod yX0_nudge, Cond.selects RX0 yX0_nudge yX0_nudge, Cond.code yX0_nudge cX0_nudge 1 (some .int), Cond.methodLink RL 89 yX1_shut, Cond.instanceMethod yX1_shut, Cond.selects RX1 yX1_shut yX1_shut, Cond.code yX1_shut cX1_shut 4 (some .int), Cond.instanceMethod yX0_silence, Cond.selects RX0 yX0_silence yX0_silence, Cond.code yX0_silence cX0_silence 4 (some .int), Cond.methodLink RL 107 yX1_pass, Cond.instanceMethod yX1_pass, Cond.selects RX1 yX1_pass yX1_pass, Cond.code yX1_pass cX1_pass 4 (some .int), Cond.methodLink RX1 100 yX1_checkMinutes, Cond.static yX1_checkMinutes, Cond.code yX1_checkMinutes cX1_checkMinutes 1 none, Cond.methodLink RX1 103 yX1_runRow, Cond.instanceMethod yX1_runRow, Cond.selects RX1 yX1_runRow yX1_runRow, Cond.code yX1_runRow cX1_runRow 5 (some .int), Cond.instanceMethod yX0_runMinute]
def wsL_law0_r9 : List Cond := [Cond.selects RX0 yX0_runMinute yX0_runMinute, Cond.code yX0_runMinute cX0_runMinute 2 none, Cond.methodLink RX0 66 yX0_turn, Cond.instanceMethod yX0_turn, Cond.selects RX0 yX0_turn yX0_turn, Cond.code yX0_turn cX0_turn 3 none, Cond.methodLink RX0 73 yX0_advance, Cond.methodLink RX0 77 yX0_isShutAt, Cond.instanceMethod yX0_isShutAt, Cond.selects RX0 yX0_isShutAt yX0_isShutAt, Cond.code yX0_isShutAt cX0_isShutAt 2 (some .boolean), Cond.methodLink RX0 81 yX0_callsDueAt, Cond.static yX0_callsDueAt, Cond.code yX0_callsDueAt cX0_callsDueAt 1 (some .int), Cond.methodLink RX0 84 yX0_cuckoo, Cond.instanceMethod yX0_cuckoo, Cond.selects RX0 yX0_cuckoo yX0_cuckoo, Cond.code yX0_cuckoo cX0_cuckoo 3 none, Cond.methodLink RX0 87 Lib.Math.min.name, Cond.static Lib.Math.min.name, Cond.code Lib.Math.min.name Lib.Math.min.code 2 (some .int), Cond.methodLink RX0 69 yX0_wear, Cond.instanceMethod yX0_wear, Cond.selects RX0 yX0_wear yX0_wear]
def wsL_law0_r10 : List Cond := [Cond.code yX0_wear cX0_wear 2 none, Cond.methodLink RL 110 yX3_pass, Cond.instanceMethod yX3_pass, Cond.selects RX3 yX3_pass yX3_pass, Cond.code yX3_pass cX3_pass 6 (some .int), Cond.fieldLink RX3 20 "CuckooShopLaw$Sim" "minute" "I", Cond.fieldLink RX3 32 "CuckooShopLaw$Clock" "latest" "I", Cond.methodLink RX3 28 yX2_pass, Cond.instanceMethod yX2_pass, Cond.selects RX2 yX2_pass yX2_pass, Cond.code yX2_pass cX2_pass 4 none, Cond.fieldLink RX2 45 "CuckooShopLaw$Clock" "latest" "I", Cond.fieldLink RX2 39 "CuckooShopLaw$Clock" "rest" "I", Cond.fieldLink RX2 56 "CuckooShopLaw$Clock" "calls" "I", Cond.fieldLink RX2 59 "CuckooShopLaw$Clock" "missed" "I", Cond.methodLink RX2 48 yX2_advance, Cond.methodLink RX2 52 yX2_isShut, Cond.instanceMethod yX2_isShut, Cond.selects RX2 yX2_isShut yX2_isShut, Cond.code yX2_isShut cX2_isShut 2 (some .boolean), Cond.fieldLink RX2 42 "CuckooShopLaw$Clock" "till" "I", Cond.methodLink RL 113 yX1_count, Cond.instanceMethod yX1_count, Cond.selects RX1 yX1_count yX1_count]
def wsL_law0_r11 : List Cond := [Cond.code yX1_count cX1_count 2 (some .int), Cond.methodLink RX1 97 yX1_tally, Cond.instanceMethod yX1_tally, Cond.selects RX1 yX1_tally yX1_tally, Cond.code yX1_tally cX1_tally 2 (some .int), Cond.methodLink RX1 125 yX1_sumOf, Cond.instanceMethod yX1_sumOf, Cond.selects RX1 yX1_sumOf yX1_sumOf, Cond.code yX1_sumOf cX1_sumOf 5 (some .int), Cond.instanceMethod yX0_reading, Cond.selects RX0 yX0_reading yX0_reading, Cond.code yX0_reading cX0_reading 2 (some .int), Cond.methodLink RX1 163 yX1_trueClocks, Cond.instanceMethod yX1_trueClocks, Cond.selects RX1 yX1_trueClocks yX1_trueClocks, Cond.code yX1_trueClocks cX1_trueClocks 3 (some .int), Cond.methodLink RX1 128 yX1_offOfAll, Cond.instanceMethod yX1_offOfAll, Cond.selects RX1 yX1_offOfAll yX1_offOfAll, Cond.code yX1_offOfAll cX1_offOfAll 5 (some .int), Cond.methodLink RX1 166 Lib.Math.abs.name, Cond.static Lib.Math.abs.name, Cond.code Lib.Math.abs.name Lib.Math.abs.code 1 (some .int), Cond.methodLink RL 118 yX1_clock]
def wsL_law0_r12 : List Cond := [Cond.instanceMethod yX1_clock, Cond.selects RX1 yX1_clock yX1_clock, Cond.code yX1_clock cX1_clock 3 (some .int), Cond.methodLink RL 121 yX1_next, Cond.instanceMethod yX1_next, Cond.selects RX1 yX1_next yX1_next, Cond.code yX1_next cX1_next 4 (some .int), Cond.instanceMethod yX0_copyFrom, Cond.selects RX0 yX0_copyFrom yX0_copyFrom, Cond.code yX0_copyFrom cX0_copyFrom 2 none, Cond.methodLink RL 124 yX1_stands, Cond.instanceMethod yX1_stands, Cond.selects RX1 yX1_stands yX1_stands, Cond.code yX1_stands cX1_stands 2 (some .int), Cond.instanceMethod yX0_minutesToStand, Cond.selects RX0 yX0_minutesToStand yX0_minutesToStand, Cond.code yX0_minutesToStand cX0_minutesToStand 1 (some .int), Cond.methodLink RL 127 yX1_foresee, Cond.instanceMethod yX1_foresee, Cond.selects RX1 yX1_foresee yX1_foresee, Cond.code yX1_foresee cX1_foresee 5 (some .int), Cond.methodLink RX1 120 yX1_copyClocks, Cond.instanceMethod yX1_copyClocks, Cond.selects RX1 yX1_copyClocks yX1_copyClocks]
def wsL_law0_r13 : List Cond := [Cond.code yX1_copyClocks cX1_copyClocks 2 none, Cond.methodLink RL 135 yX2_isShut, Cond.methodLink RL 139 yX1_mean, Cond.instanceMethod yX1_mean, Cond.selects RX1 yX1_mean yX1_mean, Cond.code yX1_mean cX1_mean 4 (some .double), Cond.methodLink RL 143 yX3_isSame, Cond.instanceMethod yX3_isSame, Cond.selects RX3 yX3_isSame yX3_isSame, Cond.code yX3_isSame cX3_isSame 10 (some .boolean), Cond.fieldLink RX3 51 "CuckooShopLaw$Clock" "rest" "I", Cond.fieldLink RX3 54 "CuckooShopLaw$Clock" "chain" "I", Cond.fieldLink RX3 57 "CuckooShopLaw$Clock" "oil" "I", Cond.fieldLink RX3 60 "CuckooShopLaw$Clock" "bellows" "I", Cond.fieldLink RX3 38 "CuckooShopLaw$Clock" "goes" "Z", Cond.fieldLink RX3 63 "CuckooShopLaw$Clock" "a" "I", Cond.fieldLink RX3 66 "CuckooShopLaw$Clock" "b" "I", Cond.fieldLink RX3 73 "CuckooShopLaw$Clock" "calls" "I", Cond.fieldLink RX3 35 "CuckooShopLaw$Clock" "missed" "I", Cond.methodLink RX3 69 yX2_advance, Cond.methodLink RX3 76 yX2_isShut, Cond.methodLink RX3 80 yX1_clock, Cond.methodLink RX3 85 yX1_off, Cond.instanceMethod yX1_off]
def wsL_law0_r14 : List Cond := [Cond.selects RX1 yX1_off yX1_off, Cond.code yX1_off cX1_off 2 (some .int), Cond.methodLink RX3 42 yX2_off, Cond.methodLink RX3 86 yX1_stands, Cond.methodLink RX3 89 yX3_go, Cond.instanceMethod yX3_go, Cond.selects RX3 yX3_go yX3_go, Cond.code yX3_go cX3_go 6 (some .int), Cond.methodLink RX3 93 yX3_off, Cond.instanceMethod yX3_off, Cond.selects RX3 yX3_off yX3_off, Cond.code yX3_off cX3_off 6 (some .int), Cond.methodLink RX3 46 Lib.Math.abs.name, Cond.methodLink RX3 95 yX1_count, Cond.methodLink RX3 98 yX1_mean]
def wsL_law0 : List Cond := (wsL_law0_r1 ++ (wsL_law0_r2 ++ (wsL_law0_r3 ++ (wsL_law0_r4 ++ (wsL_law0_r5 ++ (wsL_law0_r6 ++ (wsL_law0_r7 ++ (wsL_law0_r8 ++ (wsL_law0_r9 ++ (wsL_law0_r10 ++ (wsL_law0_r11 ++ (wsL_law0_r12 ++ (wsL_law0_r13 ++ wsL_law0_r14))))))))))))) ++ wsX10 ++ wsX30 ++ wsX00 ++ wsX20 ++ ([] : List Cond)
def wsL_law : List Cond := wsL_law0 ++ (vx_atS RX1 34 "java/lang/IllegalStateException" ["java/lang/RuntimeException", "java/lang/Exception"]).filter goodWord ++ (vx_atS RX1 51 "java/lang/IllegalArgumentException" ["java/lang/RuntimeException", "java/lang/Exception"]).filter goodWord ++ (vx_atS RX1 90 "java/lang/IndexOutOfBoundsException" ["java/lang/RuntimeException", "java/lang/Exception"]).filter goodWord
abbrev vwCl : List vw_C := [(RX0, TX0, 14), (RX1, TX1, 4), (RX2, TX2, 14), (RX3, TX3, 2)]
end
section
theorem dX0_init_0 : decode cX0_init 0 = .ok (.aload_n 0, 1) := by decide +kernel
theorem dX0_init_1 : decode cX0_init 1 = .ok (.invokespecial 3, 3) := by decide +kernel
theorem dX0_init_4 : decode cX0_init 4 = .ok (.aload_n 0, 1) := by decide +kernel
theorem dX0_init_5 : decode cX0_init 5 = .ok (.bipush 30, 2) := by decide +kernel
theorem dX0_init_7 : decode cX0_init 7 = .ok (.putfield 9, 3) := by decide +kernel
theorem dX0_init_10 : decode cX0_init 10 = .ok (.aload_n 0, 1) := by decide +kernel
theorem dX0_init_11 : decode cX0_init 11 = .ok (.bipush 30, 2) := by decide +kernel
theorem dX0_init_13 : decode cX0_init 13 = .ok (.putfield 15, 3) := by decide +kernel
theorem dX0_init_16 : decode cX0_init 16 = .ok (.aload_n 0, 1) := by decide +kernel
theorem dX0_init_17 : decode cX0_init 17 = .ok (.iconst 0, 1) := by decide +kernel
theorem dX0_init_18 : decode cX0_init 18 = .ok (.putfield 18, 3) := by decide +kernel
theorem dX0_init_21 : decode cX0_init 21 = .ok (.aload_n 0, 1) := by decide +kernel
theorem dX0_init_22 : decode cX0_init 22 = .ok (.sipush 600, 3) := by decide +kernel
theorem dX0_init_25 : decode cX0_init 25 = .ok (.putfield 21, 3) := by decide +kernel
theorem dX0_init_28 : decode cX0_init 28 = .ok (.aload_n 0, 1) := by decide +kernel
theorem dX0_init_29 : decode cX0_init 29 = .ok (.bipush 100, 2) := by decide +kernel
theorem dX0_init_31 : decode cX0_init 31 = .ok (.putfield 24, 3) := by decide +kernel
theorem dX0_init_34 : decode cX0_init 34 = .ok (.aload_n 0, 1) := by decide +kernel
theorem dX0_init_35 : decode cX0_init 35 = .ok (.bipush 60, 2) := by decide +kernel
theorem dX0_init_37 : decode cX0_init 37 = .ok (.putfield 27, 3) := by decide +kernel
theorem dX0_init_40 : decode cX0_init 40 = .ok (.aload_n 0, 1) := by decide +kernel
theorem dX0_init_41 : decode cX0_init 41 = .ok (.iconst 1, 1) := by decide +kernel
theorem dX0_init_42 : decode cX0_init 42 = .ok (.putfield 30, 3) := by decide +kernel
theorem dX0_init_45 : decode cX0_init 45 = .ok (.aload_n 0, 1) := by decide +kernel
theorem dX0_init_46 : decode cX0_init 46 = .ok (.iconst 0, 1) := by decide +kernel
theorem dX0_init_47 : decode cX0_init 47 = .ok (.putfield 34, 3) := by decide +kernel
theorem dX0_init_50 : decode cX0_init 50 = .ok (.aload_n 0, 1) := by decide +kernel
theorem dX0_init_51 : decode cX0_init 51 = .ok (.iconst 0, 1) := by decide +kernel
theorem dX0_init_52 : decode cX0_init 52 = .ok (.putfield 37, 3) := by decide +kernel
theorem dX0_init_55 : decode cX0_init 55 = .ok (.aload_n 0, 1) := by decide +kernel
theorem dX0_init_56 : decode cX0_init 56 = .ok (.iconst (-1), 1) := by decide +kernel
theorem dX0_init_57 : decode cX0_init 57 = .ok (.putfield 40, 3) := by decide +kernel
theorem dX0_init_60 : decode cX0_init 60 = .ok (.aload_n 0, 1) := by decide +kernel
theorem dX0_init_61 : decode cX0_init 61 = .ok (.iconst 0, 1) := by decide +kernel
theorem dX0_init_62 : decode cX0_init 62 = .ok (.putfield 43, 3) := by decide +kernel
theorem dX0_init_65 : decode cX0_init 65 = .ok (.aload_n 0, 1) := by decide +kernel
theorem dX0_init_66 : decode cX0_init 66 = .ok (.iconst 0, 1) := by decide +kernel
theorem dX0_init_67 : decode cX0_init 67 = .ok (.putfield 46, 3) := by decide +kernel
theorem dX0_init_70 : decode cX0_init 70 = .ok (.aload_n 0, 1) := by decide +kernel
theorem dX0_init_71 : decode cX0_init 71 = .ok (.iconst 0, 1) := by decide +kernel
theorem dX0_init_72 : decode cX0_init 72 = .ok (.putfield 49, 3) := by decide +kernel
theorem dX0_init_75 : decode cX0_init 75 = .ok (.aload_n 0, 1) := by decide +kernel
theorem dX0_init_76 : decode cX0_init 76 = .ok (.iconst 0, 1) := by decide +kernel
theorem dX0_init_77 : decode cX0_init 77 = .ok (.putfield 52, 3) := by decide +kernel
theorem dX0_init_80 : decode cX0_init 80 = .ok (.return_, 1) := by decide +kernel
theorem dX0_copyFrom_0 : decode cX0_copyFrom 0 = .ok (.aload_n 0, 1) := by decide +kernel
theorem dX0_copyFrom_1 : decode cX0_copyFrom 1 = .ok (.aload_n 1, 1) := by decide +kernel
theorem dX0_copyFrom_2 : decode cX0_copyFrom 2 = .ok (.getfield 9, 3) := by decide +kernel
theorem dX0_copyFrom_5 : decode cX0_copyFrom 5 = .ok (.putfield 9, 3) := by decide +kernel
theorem dX0_copyFrom_8 : decode cX0_copyFrom 8 = .ok (.aload_n 0, 1) := by decide +kernel
theorem dX0_copyFrom_9 : decode cX0_copyFrom 9 = .ok (.aload_n 1, 1) := by decide +kernel
theorem dX0_copyFrom_10 : decode cX0_copyFrom 10 = .ok (.getfield 15, 3) := by decide +kernel
theorem dX0_copyFrom_13 : decode cX0_copyFrom 13 = .ok (.putfield 15, 3) := by decide +kernel
theorem dX0_copyFrom_16 : decode cX0_copyFrom 16 = .ok (.aload_n 0, 1) := by decide +kernel
theorem dX0_copyFrom_17 : decode cX0_copyFrom 17 = .ok (.aload_n 1, 1) := by decide +kernel
theorem dX0_copyFrom_18 : decode cX0_copyFrom 18 = .ok (.getfield 18, 3) := by decide +kernel
theorem dX0_copyFrom_21 : decode cX0_copyFrom 21 = .ok (.putfield 18, 3) := by decide +kernel
theorem dX0_copyFrom_24 : decode cX0_copyFrom 24 = .ok (.aload_n 0, 1) := by decide +kernel
theorem dX0_copyFrom_25 : decode cX0_copyFrom 25 = .ok (.aload_n 1, 1) := by decide +kernel
theorem dX0_copyFrom_26 : decode cX0_copyFrom 26 = .ok (.getfield 21, 3) := by decide +kernel
theorem dX0_copyFrom_29 : decode cX0_copyFrom 29 = .ok (.putfield 21, 3) := by decide +kernel
theorem dX0_copyFrom_32 : decode cX0_copyFrom 32 = .ok (.aload_n 0, 1) := by decide +kernel
theorem dX0_copyFrom_33 : decode cX0_copyFrom 33 = .ok (.aload_n 1, 1) := by decide +kernel
theorem dX0_copyFrom_34 : decode cX0_copyFrom 34 = .ok (.getfield 24, 3) := by decide +kernel
theorem dX0_copyFrom_37 : decode cX0_copyFrom 37 = .ok (.putfield 24, 3) := by decide +kernel
theorem dX0_copyFrom_40 : decode cX0_copyFrom 40 = .ok (.aload_n 0, 1) := by decide +kernel
theorem dX0_copyFrom_41 : decode cX0_copyFrom 41 = .ok (.aload_n 1, 1) := by decide +kernel
theorem dX0_copyFrom_42 : decode cX0_copyFrom 42 = .ok (.getfield 27, 3) := by decide +kernel
theorem dX0_copyFrom_45 : decode cX0_copyFrom 45 = .ok (.putfield 27, 3) := by decide +kernel
theorem dX0_copyFrom_48 : decode cX0_copyFrom 48 = .ok (.aload_n 0, 1) := by decide +kernel
theorem dX0_copyFrom_49 : decode cX0_copyFrom 49 = .ok (.aload_n 1, 1) := by decide +kernel
theorem dX0_copyFrom_50 : decode cX0_copyFrom 50 = .ok (.getfield 30, 3) := by decide +kernel
theorem dX0_copyFrom_53 : decode cX0_copyFrom 53 = .ok (.putfield 30, 3) := by decide +kernel
theorem dX0_copyFrom_56 : decode cX0_copyFrom 56 = .ok (.aload_n 0, 1) := by decide +kernel
theorem dX0_copyFrom_57 : decode cX0_copyFrom 57 = .ok (.aload_n 1, 1) := by decide +kernel
theorem dX0_copyFrom_58 : decode cX0_copyFrom 58 = .ok (.getfield 34, 3) := by decide +kernel
theorem dX0_copyFrom_61 : decode cX0_copyFrom 61 = .ok (.putfield 34, 3) := by decide +kernel
theorem dX0_copyFrom_64 : decode cX0_copyFrom 64 = .ok (.aload_n 0, 1) := by decide +kernel
theorem dX0_copyFrom_65 : decode cX0_copyFrom 65 = .ok (.aload_n 1, 1) := by decide +kernel
theorem dX0_copyFrom_66 : decode cX0_copyFrom 66 = .ok (.getfield 37, 3) := by decide +kernel
theorem dX0_copyFrom_69 : decode cX0_copyFrom 69 = .ok (.putfield 37, 3) := by decide +kernel
theorem dX0_copyFrom_72 : decode cX0_copyFrom 72 = .ok (.aload_n 0, 1) := by decide +kernel
theorem dX0_copyFrom_73 : decode cX0_copyFrom 73 = .ok (.aload_n 1, 1) := by decide +kernel
theorem dX0_copyFrom_74 : decode cX0_copyFrom 74 = .ok (.getfield 40, 3) := by decide +kernel
theorem dX0_copyFrom_77 : decode cX0_copyFrom 77 = .ok (.putfield 40, 3) := by decide +kernel
theorem dX0_copyFrom_80 : decode cX0_copyFrom 80 = .ok (.aload_n 0, 1) := by decide +kernel
theorem dX0_copyFrom_81 : decode cX0_copyFrom 81 = .ok (.aload_n 1, 1) := by decide +kernel
theorem dX0_copyFrom_82 : decode cX0_copyFrom 82 = .ok (.getfield 43, 3) := by decide +kernel
theorem dX0_copyFrom_85 : decode cX0_copyFrom 85 = .ok (.putfield 43, 3) := by decide +kernel
theorem dX0_copyFrom_88 : decode cX0_copyFrom 88 = .ok (.aload_n 0, 1) := by decide +kernel
theorem dX0_copyFrom_89 : decode cX0_copyFrom 89 = .ok (.aload_n 1, 1) := by decide +kernel
theorem dX0_copyFrom_90 : decode cX0_copyFrom 90 = .ok (.getfield 46, 3) := by decide +kernel
theorem dX0_copyFrom_93 : decode cX0_copyFrom 93 = .ok (.putfield 46, 3) := by decide +kernel
theorem dX0_copyFrom_96 : decode cX0_copyFrom 96 = .ok (.aload_n 0, 1) := by decide +kernel
theorem dX0_copyFrom_97 : decode cX0_copyFrom 97 = .ok (.aload_n 1, 1) := by decide +kernel
theorem dX0_copyFrom_98 : decode cX0_copyFrom 98 = .ok (.getfield 49, 3) := by decide +kernel
theorem dX0_copyFrom_101 : decode cX0_copyFrom 101 = .ok (.putfield 49, 3) := by decide +kernel
theorem dX0_copyFrom_104 : decode cX0_copyFrom 104 = .ok (.aload_n 0, 1) := by decide +kernel
theorem dX0_copyFrom_105 : decode cX0_copyFrom 105 = .ok (.aload_n 1, 1) := by decide +kernel
theorem dX0_copyFrom_106 : decode cX0_copyFrom 106 = .ok (.getfield 52, 3) := by decide +kernel
theorem dX0_copyFrom_109 : decode cX0_copyFrom 109 = .ok (.putfield 52, 3) := by decide +kernel
theorem dX0_copyFrom_112 : decode cX0_copyFrom 112 = .ok (.return_, 1) := by decide +kernel
theorem dX0_putHands_0 : decode cX0_putHands 0 = .ok (.aload_n 0, 1) := by decide +kernel
theorem dX0_putHands_1 : decode cX0_putHands 1 = .ok (.iload_n 1, 1) := by decide +kernel
theorem dX0_putHands_2 : decode cX0_putHands 2 = .ok (.putfield 34, 3) := by decide +kernel
theorem dX0_putHands_5 : decode cX0_putHands 5 = .ok (.aload_n 0, 1) := by decide +kernel
theorem dX0_putHands_6 : decode cX0_putHands 6 = .ok (.iconst 0, 1) := by decide +kernel
theorem dX0_putHands_7 : decode cX0_putHands 7 = .ok (.putfield 37, 3) := by decide +kernel
theorem dX0_putHands_10 : decode cX0_putHands 10 = .ok (.return_, 1) := by decide +kernel
theorem dX0_fitTrain_0 : decode cX0_fitTrain 0 = .ok (.aload_n 0, 1) := by decide +kernel
theorem dX0_fitTrain_1 : decode cX0_fitTrain 1 = .ok (.iload_n 1, 1) := by decide +kernel
theorem dX0_fitTrain_2 : decode cX0_fitTrain 2 = .ok (.putfield 9, 3) := by decide +kernel
theorem dX0_fitTrain_5 : decode cX0_fitTrain 5 = .ok (.aload_n 0, 1) := by decide +kernel
theorem dX0_fitTrain_6 : decode cX0_fitTrain 6 = .ok (.iload_n 2, 1) := by decide +kernel
theorem dX0_fitTrain_7 : decode cX0_fitTrain 7 = .ok (.putfield 15, 3) := by decide +kernel
theorem dX0_fitTrain_10 : decode cX0_fitTrain 10 = .ok (.aload_n 0, 1) := by decide +kernel
theorem dX0_fitTrain_11 : decode cX0_fitTrain 11 = .ok (.iload_n 3, 1) := by decide +kernel
theorem dX0_fitTrain_12 : decode cX0_fitTrain 12 = .ok (.putfield 18, 3) := by decide +kernel
theorem dX0_fitTrain_15 : decode cX0_fitTrain 15 = .ok (.return_, 1) := by decide +kernel
theorem dX0_drawUp_0 : decode cX0_drawUp 0 = .ok (.sipush 600, 3) := by decide +kernel
theorem dX0_drawUp_3 : decode cX0_drawUp 3 = .ok (.aload_n 0, 1) := by decide +kernel
theorem dX0_drawUp_4 : decode cX0_drawUp 4 = .ok (.getfield 21, 3) := by decide +kernel
theorem dX0_drawUp_7 : decode cX0_drawUp 7 = .ok (.isub, 1) := by decide +kernel
theorem dX0_drawUp_8 : decode cX0_drawUp 8 = .ok (.istore_n 1, 1) := by decide +kernel
theorem dX0_drawUp_9 : decode cX0_drawUp 9 = .ok (.aload_n 0, 1) := by decide +kernel
theorem dX0_drawUp_10 : decode cX0_drawUp 10 = .ok (.sipush 600, 3) := by decide +kernel
theorem dX0_drawUp_13 : decode cX0_drawUp 13 = .ok (.putfield 21, 3) := by decide +kernel
theorem dX0_drawUp_16 : decode cX0_drawUp 16 = .ok (.aload_n 0, 1) := by decide +kernel
theorem dX0_drawUp_17 : decode cX0_drawUp 17 = .ok (.iconst 1, 1) := by decide +kernel
theorem dX0_drawUp_18 : decode cX0_drawUp 18 = .ok (.putfield 30, 3) := by decide +kernel
theorem dX0_drawUp_21 : decode cX0_drawUp 21 = .ok (.iload_n 1, 1) := by decide +kernel
theorem dX0_drawUp_22 : decode cX0_drawUp 22 = .ok (.ireturn, 1) := by decide +kernel
theorem dX0_fillOil_0 : decode cX0_fillOil 0 = .ok (.bipush 100, 2) := by decide +kernel
theorem dX0_fillOil_2 : decode cX0_fillOil 2 = .ok (.aload_n 0, 1) := by decide +kernel
theorem dX0_fillOil_3 : decode cX0_fillOil 3 = .ok (.getfield 24, 3) := by decide +kernel
theorem dX0_fillOil_6 : decode cX0_fillOil 6 = .ok (.isub, 1) := by decide +kernel
theorem dX0_fillOil_7 : decode cX0_fillOil 7 = .ok (.istore_n 1, 1) := by decide +kernel
theorem dX0_fillOil_8 : decode cX0_fillOil 8 = .ok (.aload_n 0, 1) := by decide +kernel
theorem dX0_fillOil_9 : decode cX0_fillOil 9 = .ok (.bipush 100, 2) := by decide +kernel
theorem dX0_fillOil_11 : decode cX0_fillOil 11 = .ok (.putfield 24, 3) := by decide +kernel
theorem dX0_fillOil_14 : decode cX0_fillOil 14 = .ok (.iload_n 1, 1) := by decide +kernel
theorem dX0_fillOil_15 : decode cX0_fillOil 15 = .ok (.ireturn, 1) := by decide +kernel
theorem dX0_patchBellows_0 : decode cX0_patchBellows 0 = .ok (.bipush 60, 2) := by decide +kernel
theorem dX0_patchBellows_2 : decode cX0_patchBellows 2 = .ok (.aload_n 0, 1) := by decide +kernel
theorem dX0_patchBellows_3 : decode cX0_patchBellows 3 = .ok (.getfield 27, 3) := by decide +kernel
theorem dX0_patchBellows_6 : decode cX0_patchBellows 6 = .ok (.isub, 1) := by decide +kernel
theorem dX0_patchBellows_7 : decode cX0_patchBellows 7 = .ok (.istore_n 1, 1) := by decide +kernel
theorem dX0_patchBellows_8 : decode cX0_patchBellows 8 = .ok (.aload_n 0, 1) := by decide +kernel
theorem dX0_patchBellows_9 : decode cX0_patchBellows 9 = .ok (.bipush 60, 2) := by decide +kernel
theorem dX0_patchBellows_11 : decode cX0_patchBellows 11 = .ok (.putfield 27, 3) := by decide +kernel
theorem dX0_patchBellows_14 : decode cX0_patchBellows 14 = .ok (.iload_n 1, 1) := by decide +kernel
theorem dX0_patchBellows_15 : decode cX0_patchBellows 15 = .ok (.ireturn, 1) := by decide +kernel
theorem dX0_nudge_0 : decode cX0_nudge 0 = .ok (.aload_n 0, 1) := by decide +kernel
theorem dX0_nudge_1 : decode cX0_nudge 1 = .ok (.aload_n 0, 1) := by decide +kernel
theorem dX0_nudge_2 : decode cX0_nudge 2 = .ok (.getfield 30, 3) := by decide +kernel
theorem dX0_nudge_5 : decode cX0_nudge 5 = .ok (.ifCond .ne 14, 3) := by decide +kernel
theorem dX0_nudge_8 : decode cX0_nudge 8 = .ok (.aload_n 0, 1) := by decide +kernel
theorem dX0_nudge_9 : decode cX0_nudge 9 = .ok (.getfield 21, 3) := by decide +kernel
theorem dX0_nudge_12 : decode cX0_nudge 12 = .ok (.ifCond .eq 7, 3) := by decide +kernel
theorem dX0_nudge_15 : decode cX0_nudge 15 = .ok (.iconst 1, 1) := by decide +kernel
theorem dX0_nudge_16 : decode cX0_nudge 16 = .ok (.goto 4, 3) := by decide +kernel
theorem dX0_nudge_19 : decode cX0_nudge 19 = .ok (.iconst 0, 1) := by decide +kernel
theorem dX0_nudge_20 : decode cX0_nudge 20 = .ok (.putfield 30, 3) := by decide +kernel
theorem dX0_nudge_23 : decode cX0_nudge 23 = .ok (.aload_n 0, 1) := by decide +kernel
theorem dX0_nudge_24 : decode cX0_nudge 24 = .ok (.getfield 30, 3) := by decide +kernel
theorem dX0_nudge_27 : decode cX0_nudge 27 = .ok (.ifCond .eq 7, 3) := by decide +kernel
theorem dX0_nudge_30 : decode cX0_nudge 30 = .ok (.iconst 1, 1) := by decide +kernel
theorem dX0_nudge_31 : decode cX0_nudge 31 = .ok (.goto 4, 3) := by decide +kernel
theorem dX0_nudge_34 : decode cX0_nudge 34 = .ok (.iconst 0, 1) := by decide +kernel
theorem dX0_nudge_35 : decode cX0_nudge 35 = .ok (.ireturn, 1) := by decide +kernel
theorem dX0_silence_0 : decode cX0_silence 0 = .ok (.aload_n 0, 1) := by decide +kernel
theorem dX0_silence_1 : decode cX0_silence 1 = .ok (.getfield 40, 3) := by decide +kernel
theorem dX0_silence_4 : decode cX0_silence 4 = .ok (.istore_n 3, 1) := by decide +kernel
theorem dX0_silence_5 : decode cX0_silence 5 = .ok (.aload_n 0, 1) := by decide +kernel
theorem dX0_silence_6 : decode cX0_silence 6 = .ok (.iload_n 1, 1) := by decide +kernel
theorem dX0_silence_7 : decode cX0_silence 7 = .ok (.putfield 40, 3) := by decide +kernel
theorem dX0_silence_10 : decode cX0_silence 10 = .ok (.aload_n 0, 1) := by decide +kernel
theorem dX0_silence_11 : decode cX0_silence 11 = .ok (.iload_n 2, 1) := by decide +kernel
theorem dX0_silence_12 : decode cX0_silence 12 = .ok (.putfield 43, 3) := by decide +kernel
theorem dX0_silence_15 : decode cX0_silence 15 = .ok (.iload_n 3, 1) := by decide +kernel
theorem dX0_silence_16 : decode cX0_silence 16 = .ok (.ireturn, 1) := by decide +kernel
set_option maxRecDepth 20000 in
theorem ggX0_advance_X0_advanceWith : GoodIn wsX0_advance wsX0_advanceWith := goodIn_r _ [7, 8, 9, 10, 11, 12, 13, 14, 15, 16, 17, 18, 19, 20, 21, 22, 23] (by decide +kernel) (by decide +kernel)
set_option maxRecDepth 20000 in
theorem gX0_advance_X0_advanceWith : GoodIn wsX0_advance (wsV RX0 55 RX0 yX0_advanceWith wsX0_advanceWith) := goodIn_app (goodIn_of _ (by decide +kernel)) ggX0_advance_X0_advanceWith
theorem dX0_advance_0 : decode cX0_advance 0 = .ok (.aload_n 0, 1) := by decide +kernel
theorem dX0_advance_1 : decode cX0_advance 1 = .ok (.aload_n 0, 1) := by decide +kernel
theorem dX0_advance_2 : decode cX0_advance 2 = .ok (.getfield 9, 3) := by decide +kernel
theorem dX0_advance_5 : decode cX0_advance 5 = .ok (.aload_n 0, 1) := by decide +kernel
theorem dX0_advance_6 : decode cX0_advance 6 = .ok (.getfield 15, 3) := by decide +kernel
theorem dX0_advance_9 : decode cX0_advance 9 = .ok (.invokevirtual 55, 3) := by decide +kernel
theorem dX0_advance_12 : decode cX0_advance 12 = .ok (.ireturn, 1) := by decide +kernel
theorem dX0_advanceWith_0 : decode cX0_advanceWith 0 = .ok (.iload_n 2, 1) := by decide +kernel
theorem dX0_advanceWith_1 : decode cX0_advanceWith 1 = .ok (.ifCond .ne 5, 3) := by decide +kernel
theorem dX0_advanceWith_4 : decode cX0_advanceWith 4 = .ok (.iconst 0, 1) := by decide +kernel
theorem dX0_advanceWith_5 : decode cX0_advanceWith 5 = .ok (.ireturn, 1) := by decide +kernel
theorem dX0_advanceWith_6 : decode cX0_advanceWith 6 = .ok (.sipush 900, 3) := by decide +kernel
theorem dX0_advanceWith_9 : decode cX0_advanceWith 9 = .ok (.iload_n 1, 1) := by decide +kernel
theorem dX0_advanceWith_10 : decode cX0_advanceWith 10 = .ok (.imul, 1) := by decide +kernel
theorem dX0_advanceWith_11 : decode cX0_advanceWith 11 = .ok (.iload_n 2, 1) := by decide +kernel
theorem dX0_advanceWith_12 : decode cX0_advanceWith 12 = .ok (.idiv, 1) := by decide +kernel
theorem dX0_advanceWith_13 : decode cX0_advanceWith 13 = .ok (.aload_n 0, 1) := by decide +kernel
theorem dX0_advanceWith_14 : decode cX0_advanceWith 14 = .ok (.getfield 18, 3) := by decide +kernel
theorem dX0_advanceWith_17 : decode cX0_advanceWith 17 = .ok (.iadd, 1) := by decide +kernel
theorem dX0_advanceWith_18 : decode cX0_advanceWith 18 = .ok (.istore_n 3, 1) := by decide +kernel
theorem dX0_advanceWith_19 : decode cX0_advanceWith 19 = .ok (.aload_n 0, 1) := by decide +kernel
theorem dX0_advanceWith_20 : decode cX0_advanceWith 20 = .ok (.getfield 24, 3) := by decide +kernel
theorem dX0_advanceWith_23 : decode cX0_advanceWith 23 = .ok (.bipush 20, 2) := by decide +kernel
theorem dX0_advanceWith_25 : decode cX0_advanceWith 25 = .ok (.if_icmp .ge 12, 3) := by decide +kernel
theorem dX0_advanceWith_28 : decode cX0_advanceWith 28 = .ok (.iload_n 3, 1) := by decide +kernel
theorem dX0_advanceWith_29 : decode cX0_advanceWith 29 = .ok (.iload_n 3, 1) := by decide +kernel
theorem dX0_advanceWith_30 : decode cX0_advanceWith 30 = .ok (.bipush 10, 2) := by decide +kernel
theorem dX0_advanceWith_32 : decode cX0_advanceWith 32 = .ok (.idiv, 1) := by decide +kernel
theorem dX0_advanceWith_33 : decode cX0_advanceWith 33 = .ok (.isub, 1) := by decide +kernel
theorem dX0_advanceWith_34 : decode cX0_advanceWith 34 = .ok (.goto 4, 3) := by decide +kernel
theorem dX0_advanceWith_37 : decode cX0_advanceWith 37 = .ok (.iload_n 3, 1) := by decide +kernel
theorem dX0_advanceWith_38 : decode cX0_advanceWith 38 = .ok (.ireturn, 1) := by decide +kernel
set_option maxRecDepth 20000 in
theorem ggX0_runMinute_X0_turn : GoodIn wsX0_runMinute wsX0_turn := goodIn_r _ [7, 8, 9, 10, 11, 12, 6, 13, 14, 15, 16, 17, 18, 19, 20, 21, 22, 23, 24, 25, 26, 27, 28, 29, 30, 31, 32, 33, 34, 35, 36, 37, 38, 39, 40, 1, 41, 47, 48, 49, 50, 51, 52, 53, 54, 55, 56, 57, 58, 59, 60] (by decide +kernel) (by decide +kernel)
set_option maxRecDepth 20000 in
theorem gX0_runMinute_X0_turn : GoodIn wsX0_runMinute (wsV RX0 66 RX0 yX0_turn wsX0_turn) := goodIn_app (goodIn_of _ (by decide +kernel)) ggX0_runMinute_X0_turn
set_option maxRecDepth 20000 in
theorem ggX0_runMinute_X0_wear : GoodIn wsX0_runMinute wsX0_wear := goodIn_r _ [45, 46, 21, 2, 47, 48, 49, 50, 51, 52, 53, 54, 55, 56, 57, 58, 59, 60] (by decide +kernel) (by decide +kernel)
set_option maxRecDepth 20000 in
theorem gX0_runMinute_X0_wear : GoodIn wsX0_runMinute (wsV RX0 69 RX0 yX0_wear wsX0_wear) := goodIn_app (goodIn_of _ (by decide +kernel)) ggX0_runMinute_X0_wear
theorem dX0_runMinute_0 : decode cX0_runMinute 0 = .ok (.aload_n 0, 1) := by decide +kernel
theorem dX0_runMinute_1 : decode cX0_runMinute 1 = .ok (.iconst 0, 1) := by decide +kernel
theorem dX0_runMinute_2 : decode cX0_runMinute 2 = .ok (.putfield 52, 3) := by decide +kernel
theorem dX0_runMinute_5 : decode cX0_runMinute 5 = .ok (.aload_n 0, 1) := by decide +kernel
theorem dX0_runMinute_6 : decode cX0_runMinute 6 = .ok (.getfield 30, 3) := by decide +kernel
theorem dX0_runMinute_9 : decode cX0_runMinute 9 = .ok (.ifCond .eq 12, 3) := by decide +kernel
theorem dX0_runMinute_12 : decode cX0_runMinute 12 = .ok (.aload_n 0, 1) := by decide +kernel
theorem dX0_runMinute_13 : decode cX0_runMinute 13 = .ok (.invokevirtual 66, 3) := by decide +kernel
theorem dX0_runMinute_16 : decode cX0_runMinute 16 = .ok (.aload_n 0, 1) := by decide +kernel
theorem dX0_runMinute_17 : decode cX0_runMinute 17 = .ok (.iload_n 1, 1) := by decide +kernel
theorem dX0_runMinute_18 : decode cX0_runMinute 18 = .ok (.invokevirtual 69, 3) := by decide +kernel
theorem dX0_runMinute_21 : decode cX0_runMinute 21 = .ok (.return_, 1) := by decide +kernel
set_option maxRecDepth 20000 in
theorem ggX0_turn_X0_advance : GoodIn wsX0_turn wsX0_advance := goodIn_r _ [7, 8, 9, 10, 11, 12, 6, 13, 14, 15, 37, 38, 39, 40, 41, 42, 43, 44, 45, 46, 47, 48, 49, 50] (by decide +kernel) (by decide +kernel)
set_option maxRecDepth 20000 in
theorem gX0_turn_X0_advance : GoodIn wsX0_turn (wsV RX0 73 RX0 yX0_advance wsX0_advance) := goodIn_app (goodIn_of _ (by decide +kernel)) ggX0_turn_X0_advance
set_option maxRecDepth 20000 in
theorem ggX0_turn_X0_isShutAt : GoodIn wsX0_turn wsX0_isShutAt := goodIn_r _ [19, 20, 21, 37, 38, 39, 40, 41, 42, 43, 44, 45, 46, 47, 48, 49, 50] (by decide +kernel) (by decide +kernel)
set_option maxRecDepth 20000 in
theorem gX0_turn_X0_isShutAt : GoodIn wsX0_turn (wsV RX0 77 RX0 yX0_isShutAt wsX0_isShutAt) := goodIn_app (goodIn_of _ (by decide +kernel)) ggX0_turn_X0_isShutAt
set_option maxRecDepth 20000 in
theorem ggX0_turn_X0_callsDueAt : GoodIn wsX0_turn wsX0_callsDueAt := goodIn_r _ [24] (by decide +kernel) (by decide +kernel)
set_option maxRecDepth 20000 in
theorem gX0_turn_X0_callsDueAt : GoodIn wsX0_turn (va_wsS RX0 81 yX0_callsDueAt wsX0_callsDueAt) := goodIn_app (goodIn_of _ (by decide +kernel)) ggX0_turn_X0_callsDueAt
set_option maxRecDepth 20000 in
theorem ggX0_turn_X0_cuckoo : GoodIn wsX0_turn wsX0_cuckoo := goodIn_r _ [28, 29, 30, 31, 32, 33, 34, 35, 36, 37, 38, 39, 40, 41, 42, 43, 44, 45, 46, 47, 48, 49, 50] (by decide +kernel) (by decide +kernel)
set_option maxRecDepth 20000 in
theorem gX0_turn_X0_cuckoo : GoodIn wsX0_turn (wsV RX0 84 RX0 yX0_cuckoo wsX0_cuckoo) := goodIn_app (goodIn_of _ (by decide +kernel)) ggX0_turn_X0_cuckoo
theorem dX0_turn_0 : decode cX0_turn 0 = .ok (.aload_n 0, 1) := by decide +kernel
theorem dX0_turn_1 : decode cX0_turn 1 = .ok (.getfield 37, 3) := by decide +kernel
theorem dX0_turn_4 : decode cX0_turn 4 = .ok (.aload_n 0, 1) := by decide +kernel
theorem dX0_turn_5 : decode cX0_turn 5 = .ok (.invokevirtual 73, 3) := by decide +kernel
theorem dX0_turn_8 : decode cX0_turn 8 = .ok (.iadd, 1) := by decide +kernel
theorem dX0_turn_9 : decode cX0_turn 9 = .ok (.istore_n 1, 1) := by decide +kernel
theorem dX0_turn_10 : decode cX0_turn 10 = .ok (.aload_n 0, 1) := by decide +kernel
theorem dX0_turn_11 : decode cX0_turn 11 = .ok (.iload_n 1, 1) := by decide +kernel
theorem dX0_turn_12 : decode cX0_turn 12 = .ok (.sipush 900, 3) := by decide +kernel
theorem dX0_turn_15 : decode cX0_turn 15 = .ok (.irem, 1) := by decide +kernel
theorem dX0_turn_16 : decode cX0_turn 16 = .ok (.putfield 37, 3) := by decide +kernel
theorem dX0_turn_19 : decode cX0_turn 19 = .ok (.iload_n 1, 1) := by decide +kernel
theorem dX0_turn_20 : decode cX0_turn 20 = .ok (.sipush 900, 3) := by decide +kernel
theorem dX0_turn_23 : decode cX0_turn 23 = .ok (.idiv, 1) := by decide +kernel
theorem dX0_turn_24 : decode cX0_turn 24 = .ok (.istore_n 2, 1) := by decide +kernel
theorem dX0_turn_25 : decode cX0_turn 25 = .ok (.iload_n 2, 1) := by decide +kernel
theorem dX0_turn_26 : decode cX0_turn 26 = .ok (.ifCond .le 45, 3) := by decide +kernel
theorem dX0_turn_29 : decode cX0_turn 29 = .ok (.aload_n 0, 1) := by decide +kernel
theorem dX0_turn_30 : decode cX0_turn 30 = .ok (.aload_n 0, 1) := by decide +kernel
theorem dX0_turn_31 : decode cX0_turn 31 = .ok (.getfield 34, 3) := by decide +kernel
theorem dX0_turn_34 : decode cX0_turn 34 = .ok (.iconst 1, 1) := by decide +kernel
theorem dX0_turn_35 : decode cX0_turn 35 = .ok (.iadd, 1) := by decide +kernel
theorem dX0_turn_36 : decode cX0_turn 36 = .ok (.sipush 720, 3) := by decide +kernel
theorem dX0_turn_39 : decode cX0_turn 39 = .ok (.irem, 1) := by decide +kernel
theorem dX0_turn_40 : decode cX0_turn 40 = .ok (.putfield 34, 3) := by decide +kernel
theorem dX0_turn_43 : decode cX0_turn 43 = .ok (.aload_n 0, 1) := by decide +kernel
theorem dX0_turn_44 : decode cX0_turn 44 = .ok (.aload_n 0, 1) := by decide +kernel
theorem dX0_turn_45 : decode cX0_turn 45 = .ok (.getfield 34, 3) := by decide +kernel
theorem dX0_turn_48 : decode cX0_turn 48 = .ok (.invokevirtual 77, 3) := by decide +kernel
theorem dX0_turn_51 : decode cX0_turn 51 = .ok (.ifCond .ne 14, 3) := by decide +kernel
theorem dX0_turn_54 : decode cX0_turn 54 = .ok (.aload_n 0, 1) := by decide +kernel
theorem dX0_turn_55 : decode cX0_turn 55 = .ok (.aload_n 0, 1) := by decide +kernel
theorem dX0_turn_56 : decode cX0_turn 56 = .ok (.getfield 34, 3) := by decide +kernel
theorem dX0_turn_59 : decode cX0_turn 59 = .ok (.invokestatic 81, 3) := by decide +kernel
theorem dX0_turn_62 : decode cX0_turn 62 = .ok (.invokevirtual 84, 3) := by decide +kernel
theorem dX0_turn_65 : decode cX0_turn 65 = .ok (.iinc 2 (-1), 3) := by decide +kernel
theorem dX0_turn_68 : decode cX0_turn 68 = .ok (.goto (-43), 3) := by decide +kernel
theorem dX0_turn_71 : decode cX0_turn 71 = .ok (.return_, 1) := by decide +kernel
theorem dX0_wear_0 : decode cX0_wear 0 = .ok (.aload_n 0, 1) := by decide +kernel
theorem dX0_wear_1 : decode cX0_wear 1 = .ok (.dup, 1) := by decide +kernel
theorem dX0_wear_2 : decode cX0_wear 2 = .ok (.getfield 21, 3) := by decide +kernel
theorem dX0_wear_5 : decode cX0_wear 5 = .ok (.iconst 1, 1) := by decide +kernel
theorem dX0_wear_6 : decode cX0_wear 6 = .ok (.isub, 1) := by decide +kernel
theorem dX0_wear_7 : decode cX0_wear 7 = .ok (.putfield 21, 3) := by decide +kernel
theorem dX0_wear_10 : decode cX0_wear 10 = .ok (.iload_n 1, 1) := by decide +kernel
theorem dX0_wear_11 : decode cX0_wear 11 = .ok (.bipush 10, 2) := by decide +kernel
theorem dX0_wear_13 : decode cX0_wear 13 = .ok (.irem, 1) := by decide +kernel
theorem dX0_wear_14 : decode cX0_wear 14 = .ok (.ifCond .ne 20, 3) := by decide +kernel
theorem dX0_wear_17 : decode cX0_wear 17 = .ok (.aload_n 0, 1) := by decide +kernel
theorem dX0_wear_18 : decode cX0_wear 18 = .ok (.getfield 24, 3) := by decide +kernel
theorem dX0_wear_21 : decode cX0_wear 21 = .ok (.ifCond .le 13, 3) := by decide +kernel
theorem dX0_wear_24 : decode cX0_wear 24 = .ok (.aload_n 0, 1) := by decide +kernel
theorem dX0_wear_25 : decode cX0_wear 25 = .ok (.dup, 1) := by decide +kernel
theorem dX0_wear_26 : decode cX0_wear 26 = .ok (.getfield 24, 3) := by decide +kernel
theorem dX0_wear_29 : decode cX0_wear 29 = .ok (.iconst 1, 1) := by decide +kernel
theorem dX0_wear_30 : decode cX0_wear 30 = .ok (.isub, 1) := by decide +kernel
theorem dX0_wear_31 : decode cX0_wear 31 = .ok (.putfield 24, 3) := by decide +kernel
theorem dX0_wear_34 : decode cX0_wear 34 = .ok (.aload_n 0, 1) := by decide +kernel
theorem dX0_wear_35 : decode cX0_wear 35 = .ok (.getfield 21, 3) := by decide +kernel
theorem dX0_wear_38 : decode cX0_wear 38 = .ok (.ifCond .gt 8, 3) := by decide +kernel
theorem dX0_wear_41 : decode cX0_wear 41 = .ok (.aload_n 0, 1) := by decide +kernel
theorem dX0_wear_42 : decode cX0_wear 42 = .ok (.iconst 0, 1) := by decide +kernel
theorem dX0_wear_43 : decode cX0_wear 43 = .ok (.putfield 30, 3) := by decide +kernel
theorem dX0_wear_46 : decode cX0_wear 46 = .ok (.return_, 1) := by decide +kernel
theorem dX0_callsDueAt_0 : decode cX0_callsDueAt 0 = .ok (.iload_n 0, 1) := by decide +kernel
theorem dX0_callsDueAt_1 : decode cX0_callsDueAt 1 = .ok (.ifCond .ne 6, 3) := by decide +kernel
theorem dX0_callsDueAt_4 : decode cX0_callsDueAt 4 = .ok (.bipush 12, 2) := by decide +kernel
theorem dX0_callsDueAt_6 : decode cX0_callsDueAt 6 = .ok (.ireturn, 1) := by decide +kernel
theorem dX0_callsDueAt_7 : decode cX0_callsDueAt 7 = .ok (.iload_n 0, 1) := by decide +kernel
theorem dX0_callsDueAt_8 : decode cX0_callsDueAt 8 = .ok (.bipush 60, 2) := by decide +kernel
theorem dX0_callsDueAt_10 : decode cX0_callsDueAt 10 = .ok (.irem, 1) := by decide +kernel
theorem dX0_callsDueAt_11 : decode cX0_callsDueAt 11 = .ok (.ifCond .ne 8, 3) := by decide +kernel
theorem dX0_callsDueAt_14 : decode cX0_callsDueAt 14 = .ok (.iload_n 0, 1) := by decide +kernel
theorem dX0_callsDueAt_15 : decode cX0_callsDueAt 15 = .ok (.bipush 60, 2) := by decide +kernel
theorem dX0_callsDueAt_17 : decode cX0_callsDueAt 17 = .ok (.idiv, 1) := by decide +kernel
theorem dX0_callsDueAt_18 : decode cX0_callsDueAt 18 = .ok (.ireturn, 1) := by decide +kernel
theorem dX0_callsDueAt_19 : decode cX0_callsDueAt 19 = .ok (.iload_n 0, 1) := by decide +kernel
theorem dX0_callsDueAt_20 : decode cX0_callsDueAt 20 = .ok (.bipush 30, 2) := by decide +kernel
theorem dX0_callsDueAt_22 : decode cX0_callsDueAt 22 = .ok (.irem, 1) := by decide +kernel
theorem dX0_callsDueAt_23 : decode cX0_callsDueAt 23 = .ok (.ifCond .ne 7, 3) := by decide +kernel
theorem dX0_callsDueAt_26 : decode cX0_callsDueAt 26 = .ok (.iconst 1, 1) := by decide +kernel
theorem dX0_callsDueAt_27 : decode cX0_callsDueAt 27 = .ok (.goto 4, 3) := by decide +kernel
theorem dX0_callsDueAt_30 : decode cX0_callsDueAt 30 = .ok (.iconst 0, 1) := by decide +kernel
theorem dX0_callsDueAt_31 : decode cX0_callsDueAt 31 = .ok (.ireturn, 1) := by decide +kernel
theorem dX0_cuckoo_0 : decode cX0_cuckoo 0 = .ok (.iload_n 1, 1) := by decide +kernel
theorem dX0_cuckoo_1 : decode cX0_cuckoo 1 = .ok (.aload_n 0, 1) := by decide +kernel
theorem dX0_cuckoo_2 : decode cX0_cuckoo 2 = .ok (.getfield 27, 3) := by decide +kernel
theorem dX0_cuckoo_5 : decode cX0_cuckoo 5 = .ok (.invokestatic 87, 3) := by decide +kernel
theorem dX0_cuckoo_8 : decode cX0_cuckoo 8 = .ok (.istore_n 2, 1) := by decide +kernel
theorem dX0_cuckoo_9 : decode cX0_cuckoo 9 = .ok (.aload_n 0, 1) := by decide +kernel
theorem dX0_cuckoo_10 : decode cX0_cuckoo 10 = .ok (.dup, 1) := by decide +kernel
theorem dX0_cuckoo_11 : decode cX0_cuckoo 11 = .ok (.getfield 27, 3) := by decide +kernel
theorem dX0_cuckoo_14 : decode cX0_cuckoo 14 = .ok (.iload_n 2, 1) := by decide +kernel
theorem dX0_cuckoo_15 : decode cX0_cuckoo 15 = .ok (.isub, 1) := by decide +kernel
theorem dX0_cuckoo_16 : decode cX0_cuckoo 16 = .ok (.putfield 27, 3) := by decide +kernel
theorem dX0_cuckoo_19 : decode cX0_cuckoo 19 = .ok (.aload_n 0, 1) := by decide +kernel
theorem dX0_cuckoo_20 : decode cX0_cuckoo 20 = .ok (.dup, 1) := by decide +kernel
theorem dX0_cuckoo_21 : decode cX0_cuckoo 21 = .ok (.getfield 46, 3) := by decide +kernel
theorem dX0_cuckoo_24 : decode cX0_cuckoo 24 = .ok (.iload_n 2, 1) := by decide +kernel
theorem dX0_cuckoo_25 : decode cX0_cuckoo 25 = .ok (.iadd, 1) := by decide +kernel
theorem dX0_cuckoo_26 : decode cX0_cuckoo 26 = .ok (.putfield 46, 3) := by decide +kernel
theorem dX0_cuckoo_29 : decode cX0_cuckoo 29 = .ok (.aload_n 0, 1) := by decide +kernel
theorem dX0_cuckoo_30 : decode cX0_cuckoo 30 = .ok (.dup, 1) := by decide +kernel
theorem dX0_cuckoo_31 : decode cX0_cuckoo 31 = .ok (.getfield 52, 3) := by decide +kernel
theorem dX0_cuckoo_34 : decode cX0_cuckoo 34 = .ok (.iload_n 2, 1) := by decide +kernel
theorem dX0_cuckoo_35 : decode cX0_cuckoo 35 = .ok (.iadd, 1) := by decide +kernel
theorem dX0_cuckoo_36 : decode cX0_cuckoo 36 = .ok (.putfield 52, 3) := by decide +kernel
theorem dX0_cuckoo_39 : decode cX0_cuckoo 39 = .ok (.aload_n 0, 1) := by decide +kernel
theorem dX0_cuckoo_40 : decode cX0_cuckoo 40 = .ok (.dup, 1) := by decide +kernel
theorem dX0_cuckoo_41 : decode cX0_cuckoo 41 = .ok (.getfield 49, 3) := by decide +kernel
theorem dX0_cuckoo_44 : decode cX0_cuckoo 44 = .ok (.iload_n 1, 1) := by decide +kernel
theorem dX0_cuckoo_45 : decode cX0_cuckoo 45 = .ok (.iload_n 2, 1) := by decide +kernel
theorem dX0_cuckoo_46 : decode cX0_cuckoo 46 = .ok (.isub, 1) := by decide +kernel
theorem dX0_cuckoo_47 : decode cX0_cuckoo 47 = .ok (.iadd, 1) := by decide +kernel
theorem dX0_cuckoo_48 : decode cX0_cuckoo 48 = .ok (.putfield 49, 3) := by decide +kernel
theorem dX0_cuckoo_51 : decode cX0_cuckoo 51 = .ok (.return_, 1) := by decide +kernel
theorem dX0_isShutAt_0 : decode cX0_isShutAt 0 = .ok (.aload_n 0, 1) := by decide +kernel
theorem dX0_isShutAt_1 : decode cX0_isShutAt 1 = .ok (.getfield 40, 3) := by decide +kernel
theorem dX0_isShutAt_4 : decode cX0_isShutAt 4 = .ok (.iconst (-1), 1) := by decide +kernel
theorem dX0_isShutAt_5 : decode cX0_isShutAt 5 = .ok (.if_icmp .ne 5, 3) := by decide +kernel
theorem dX0_isShutAt_8 : decode cX0_isShutAt 8 = .ok (.iconst 0, 1) := by decide +kernel
theorem dX0_isShutAt_9 : decode cX0_isShutAt 9 = .ok (.ireturn, 1) := by decide +kernel
theorem dX0_isShutAt_10 : decode cX0_isShutAt 10 = .ok (.aload_n 0, 1) := by decide +kernel
theorem dX0_isShutAt_11 : decode cX0_isShutAt 11 = .ok (.getfield 40, 3) := by decide +kernel
theorem dX0_isShutAt_14 : decode cX0_isShutAt 14 = .ok (.aload_n 0, 1) := by decide +kernel
theorem dX0_isShutAt_15 : decode cX0_isShutAt 15 = .ok (.getfield 43, 3) := by decide +kernel
theorem dX0_isShutAt_18 : decode cX0_isShutAt 18 = .ok (.if_icmp .ge 25, 3) := by decide +kernel
theorem dX0_isShutAt_21 : decode cX0_isShutAt 21 = .ok (.iload_n 1, 1) := by decide +kernel
theorem dX0_isShutAt_22 : decode cX0_isShutAt 22 = .ok (.aload_n 0, 1) := by decide +kernel
theorem dX0_isShutAt_23 : decode cX0_isShutAt 23 = .ok (.getfield 40, 3) := by decide +kernel
theorem dX0_isShutAt_26 : decode cX0_isShutAt 26 = .ok (.if_icmp .lt 15, 3) := by decide +kernel
theorem dX0_isShutAt_29 : decode cX0_isShutAt 29 = .ok (.iload_n 1, 1) := by decide +kernel
theorem dX0_isShutAt_30 : decode cX0_isShutAt 30 = .ok (.aload_n 0, 1) := by decide +kernel
theorem dX0_isShutAt_31 : decode cX0_isShutAt 31 = .ok (.getfield 43, 3) := by decide +kernel
theorem dX0_isShutAt_34 : decode cX0_isShutAt 34 = .ok (.if_icmp .ge 7, 3) := by decide +kernel
theorem dX0_isShutAt_37 : decode cX0_isShutAt 37 = .ok (.iconst 1, 1) := by decide +kernel
theorem dX0_isShutAt_38 : decode cX0_isShutAt 38 = .ok (.goto 4, 3) := by decide +kernel
theorem dX0_isShutAt_41 : decode cX0_isShutAt 41 = .ok (.iconst 0, 1) := by decide +kernel
theorem dX0_isShutAt_42 : decode cX0_isShutAt 42 = .ok (.ireturn, 1) := by decide +kernel
theorem dX0_isShutAt_43 : decode cX0_isShutAt 43 = .ok (.iload_n 1, 1) := by decide +kernel
theorem dX0_isShutAt_44 : decode cX0_isShutAt 44 = .ok (.aload_n 0, 1) := by decide +kernel
theorem dX0_isShutAt_45 : decode cX0_isShutAt 45 = .ok (.getfield 40, 3) := by decide +kernel
theorem dX0_isShutAt_48 : decode cX0_isShutAt 48 = .ok (.if_icmp .ge 11, 3) := by decide +kernel
theorem dX0_isShutAt_51 : decode cX0_isShutAt 51 = .ok (.iload_n 1, 1) := by decide +kernel
theorem dX0_isShutAt_52 : decode cX0_isShutAt 52 = .ok (.aload_n 0, 1) := by decide +kernel
theorem dX0_isShutAt_53 : decode cX0_isShutAt 53 = .ok (.getfield 43, 3) := by decide +kernel
theorem dX0_isShutAt_56 : decode cX0_isShutAt 56 = .ok (.if_icmp .ge 7, 3) := by decide +kernel
theorem dX0_isShutAt_59 : decode cX0_isShutAt 59 = .ok (.iconst 1, 1) := by decide +kernel
theorem dX0_isShutAt_60 : decode cX0_isShutAt 60 = .ok (.goto 4, 3) := by decide +kernel
theorem dX0_isShutAt_63 : decode cX0_isShutAt 63 = .ok (.iconst 0, 1) := by decide +kernel
theorem dX0_isShutAt_64 : decode cX0_isShutAt 64 = .ok (.ireturn, 1) := by decide +kernel
theorem dX0_minutesToStand_0 : decode cX0_minutesToStand 0 = .ok (.aload_n 0, 1) := by decide +kernel
theorem dX0_minutesToStand_1 : decode cX0_minutesToStand 1 = .ok (.getfield 30, 3) := by decide +kernel
theorem dX0_minutesToStand_4 : decode cX0_minutesToStand 4 = .ok (.ifCond .eq 10, 3) := by decide +kernel
theorem dX0_minutesToStand_7 : decode cX0_minutesToStand 7 = .ok (.aload_n 0, 1) := by decide +kernel
theorem dX0_minutesToStand_8 : decode cX0_minutesToStand 8 = .ok (.getfield 21, 3) := by decide +kernel
theorem dX0_minutesToStand_11 : decode cX0_minutesToStand 11 = .ok (.goto 4, 3) := by decide +kernel
theorem dX0_minutesToStand_14 : decode cX0_minutesToStand 14 = .ok (.iconst 0, 1) := by decide +kernel
theorem dX0_minutesToStand_15 : decode cX0_minutesToStand 15 = .ok (.ireturn, 1) := by decide +kernel
set_option maxRecDepth 20000 in
theorem ggX0_reading_X0_advance : GoodIn wsX0_reading wsX0_advance := goodIn_r _ [14, 15, 16, 17, 18, 19, 13, 20, 21, 4, 28, 29, 30, 31, 32, 33, 34, 35, 36, 37, 38, 39, 40, 41] (by decide +kernel) (by decide +kernel)
set_option maxRecDepth 20000 in
theorem gX0_reading_X0_advance : GoodIn wsX0_reading (wsV RX0 73 RX0 yX0_advance wsX0_advance) := goodIn_app (goodIn_of _ (by decide +kernel)) ggX0_reading_X0_advance
set_option maxRecDepth 20000 in
theorem ggX0_reading_X0_isShutAt : GoodIn wsX0_reading wsX0_isShutAt := goodIn_r _ [25, 26, 27, 28, 29, 30, 31, 32, 33, 34, 35, 36, 37, 38, 39, 40, 41] (by decide +kernel) (by decide +kernel)
set_option maxRecDepth 20000 in
theorem gX0_reading_X0_isShutAt : GoodIn wsX0_reading (wsV RX0 77 RX0 yX0_isShutAt wsX0_isShutAt) := goodIn_app (goodIn_of _ (by decide +kernel)) ggX0_reading_X0_isShutAt
theorem dX0_reading_0 : decode cX0_reading 0 = .ok (.iload_n 1, 1) := by decide +kernel
theorem dX0_reading_1 : decode cX0_reading 1 = .ok (.tableswitch 113 0 9 #[55, 60, 65, 70, 75, 80, 93, 98, 103, 108], 55) := by decide +kernel
theorem dX0_reading_56 : decode cX0_reading 56 = .ok (.aload_n 0, 1) := by decide +kernel
theorem dX0_reading_57 : decode cX0_reading 57 = .ok (.getfield 34, 3) := by decide +kernel
theorem dX0_reading_60 : decode cX0_reading 60 = .ok (.ireturn, 1) := by decide +kernel
theorem dX0_reading_61 : decode cX0_reading 61 = .ok (.aload_n 0, 1) := by decide +kernel
theorem dX0_reading_62 : decode cX0_reading 62 = .ok (.getfield 37, 3) := by decide +kernel
theorem dX0_reading_65 : decode cX0_reading 65 = .ok (.ireturn, 1) := by decide +kernel
theorem dX0_reading_66 : decode cX0_reading 66 = .ok (.aload_n 0, 1) := by decide +kernel
theorem dX0_reading_67 : decode cX0_reading 67 = .ok (.getfield 21, 3) := by decide +kernel
theorem dX0_reading_70 : decode cX0_reading 70 = .ok (.ireturn, 1) := by decide +kernel
theorem dX0_reading_71 : decode cX0_reading 71 = .ok (.aload_n 0, 1) := by decide +kernel
theorem dX0_reading_72 : decode cX0_reading 72 = .ok (.getfield 24, 3) := by decide +kernel
theorem dX0_reading_75 : decode cX0_reading 75 = .ok (.ireturn, 1) := by decide +kernel
theorem dX0_reading_76 : decode cX0_reading 76 = .ok (.aload_n 0, 1) := by decide +kernel
theorem dX0_reading_77 : decode cX0_reading 77 = .ok (.getfield 27, 3) := by decide +kernel
theorem dX0_reading_80 : decode cX0_reading 80 = .ok (.ireturn, 1) := by decide +kernel
theorem dX0_reading_81 : decode cX0_reading 81 = .ok (.aload_n 0, 1) := by decide +kernel
theorem dX0_reading_82 : decode cX0_reading 82 = .ok (.getfield 30, 3) := by decide +kernel
theorem dX0_reading_85 : decode cX0_reading 85 = .ok (.ifCond .eq 7, 3) := by decide +kernel
theorem dX0_reading_88 : decode cX0_reading 88 = .ok (.iconst 1, 1) := by decide +kernel
theorem dX0_reading_89 : decode cX0_reading 89 = .ok (.goto 4, 3) := by decide +kernel
theorem dX0_reading_92 : decode cX0_reading 92 = .ok (.iconst 0, 1) := by decide +kernel
theorem dX0_reading_93 : decode cX0_reading 93 = .ok (.ireturn, 1) := by decide +kernel
theorem dX0_reading_94 : decode cX0_reading 94 = .ok (.aload_n 0, 1) := by decide +kernel
theorem dX0_reading_95 : decode cX0_reading 95 = .ok (.invokevirtual 73, 3) := by decide +kernel
theorem dX0_reading_98 : decode cX0_reading 98 = .ok (.ireturn, 1) := by decide +kernel
theorem dX0_reading_99 : decode cX0_reading 99 = .ok (.aload_n 0, 1) := by decide +kernel
theorem dX0_reading_100 : decode cX0_reading 100 = .ok (.getfield 46, 3) := by decide +kernel
theorem dX0_reading_103 : decode cX0_reading 103 = .ok (.ireturn, 1) := by decide +kernel
theorem dX0_reading_104 : decode cX0_reading 104 = .ok (.aload_n 0, 1) := by decide +kernel
theorem dX0_reading_105 : decode cX0_reading 105 = .ok (.getfield 49, 3) := by decide +kernel
theorem dX0_reading_108 : decode cX0_reading 108 = .ok (.ireturn, 1) := by decide +kernel
theorem dX0_reading_109 : decode cX0_reading 109 = .ok (.aload_n 0, 1) := by decide +kernel
theorem dX0_reading_110 : decode cX0_reading 110 = .ok (.getfield 52, 3) := by decide +kernel
theorem dX0_reading_113 : decode cX0_reading 113 = .ok (.ireturn, 1) := by decide +kernel
theorem dX0_reading_114 : decode cX0_reading 114 = .ok (.aload_n 0, 1) := by decide +kernel
theorem dX0_reading_115 : decode cX0_reading 115 = .ok (.aload_n 0, 1) := by decide +kernel
theorem dX0_reading_116 : decode cX0_reading 116 = .ok (.getfield 34, 3) := by decide +kernel
theorem dX0_reading_119 : decode cX0_reading 119 = .ok (.invokevirtual 77, 3) := by decide +kernel
theorem dX0_reading_122 : decode cX0_reading 122 = .ok (.ifCond .eq 7, 3) := by decide +kernel
theorem dX0_reading_125 : decode cX0_reading 125 = .ok (.iconst 1, 1) := by decide +kernel
theorem dX0_reading_126 : decode cX0_reading 126 = .ok (.goto 4, 3) := by decide +kernel
theorem dX0_reading_129 : decode cX0_reading 129 = .ok (.iconst 0, 1) := by decide +kernel
theorem dX0_reading_130 : decode cX0_reading 130 = .ok (.ireturn, 1) := by decide +kernel
end
section
set_option maxRecDepth 20000 in
theorem ggX1_init_X0_init : GoodIn wsX1_init wsX0_init := goodIn_r _ [12, 13, 2, 3, 14, 15, 16, 17, 18, 19, 20, 21, 22, 23, 24, 25, 26, 27, 32, 33, 34, 35, 36, 37, 38, 39, 40, 41, 42, 43, 44, 45] (by decide +kernel) (by decide +kernel)
set_option maxRecDepth 20000 in
theorem gX1_init_X0_init_n18 : GoodIn wsX1_init (wsX0_init) := ggX1_init_X0_init
theorem dX1_init_0 : decode cX1_init 0 = .ok (.aload_n 0, 1) := by decide +kernel
theorem dX1_init_1 : decode cX1_init 1 = .ok (.invokespecial 1, 3) := by decide +kernel
theorem dX1_init_4 : decode cX1_init 4 = .ok (.aload_n 0, 1) := by decide +kernel
theorem dX1_init_5 : decode cX1_init 5 = .ok (.bipush 10, 2) := by decide +kernel
theorem dX1_init_7 : decode cX1_init 7 = .ok (.anewarray 9, 3) := by decide +kernel
theorem dX1_init_10 : decode cX1_init 10 = .ok (.putfield 11, 3) := by decide +kernel
theorem dX1_init_13 : decode cX1_init 13 = .ok (.aload_n 0, 1) := by decide +kernel
theorem dX1_init_14 : decode cX1_init 14 = .ok (.bipush 10, 2) := by decide +kernel
theorem dX1_init_16 : decode cX1_init 16 = .ok (.anewarray 9, 3) := by decide +kernel
theorem dX1_init_19 : decode cX1_init 19 = .ok (.putfield 15, 3) := by decide +kernel
theorem dX1_init_22 : decode cX1_init 22 = .ok (.iconst 0, 1) := by decide +kernel
theorem dX1_init_23 : decode cX1_init 23 = .ok (.istore_n 1, 1) := by decide +kernel
theorem dX1_init_24 : decode cX1_init 24 = .ok (.iload_n 1, 1) := by decide +kernel
theorem dX1_init_25 : decode cX1_init 25 = .ok (.bipush 10, 2) := by decide +kernel
theorem dX1_init_27 : decode cX1_init 27 = .ok (.if_icmp .ge 35, 3) := by decide +kernel
theorem dX1_init_30 : decode cX1_init 30 = .ok (.aload_n 0, 1) := by decide +kernel
theorem dX1_init_31 : decode cX1_init 31 = .ok (.getfield 11, 3) := by decide +kernel
theorem dX1_init_34 : decode cX1_init 34 = .ok (.iload_n 1, 1) := by decide +kernel
theorem dX1_init_35 : decode cX1_init 35 = .ok (.new 9, 3) := by decide +kernel
theorem dX1_init_38 : decode cX1_init 38 = .ok (.dup, 1) := by decide +kernel
theorem dX1_init_39 : decode cX1_init 39 = .ok (.invokespecial 18, 3) := by decide +kernel
theorem dX1_init_42 : decode cX1_init 42 = .ok (.aastore, 1) := by decide +kernel
theorem dX1_init_43 : decode cX1_init 43 = .ok (.aload_n 0, 1) := by decide +kernel
theorem dX1_init_44 : decode cX1_init 44 = .ok (.getfield 15, 3) := by decide +kernel
theorem dX1_init_47 : decode cX1_init 47 = .ok (.iload_n 1, 1) := by decide +kernel
theorem dX1_init_48 : decode cX1_init 48 = .ok (.new 9, 3) := by decide +kernel
theorem dX1_init_51 : decode cX1_init 51 = .ok (.dup, 1) := by decide +kernel
theorem dX1_init_52 : decode cX1_init 52 = .ok (.invokespecial 18, 3) := by decide +kernel
theorem dX1_init_55 : decode cX1_init 55 = .ok (.aastore, 1) := by decide +kernel
theorem dX1_init_56 : decode cX1_init 56 = .ok (.iinc 1 1, 3) := by decide +kernel
theorem dX1_init_59 : decode cX1_init 59 = .ok (.goto (-35), 3) := by decide +kernel
theorem dX1_init_62 : decode cX1_init 62 = .ok (.aload_n 0, 1) := by decide +kernel
theorem dX1_init_63 : decode cX1_init 63 = .ok (.iconst 0, 1) := by decide +kernel
theorem dX1_init_64 : decode cX1_init 64 = .ok (.putfield 19, 3) := by decide +kernel
theorem dX1_init_67 : decode cX1_init 67 = .ok (.aload_n 0, 1) := by decide +kernel
theorem dX1_init_68 : decode cX1_init 68 = .ok (.iconst 0, 1) := by decide +kernel
theorem dX1_init_69 : decode cX1_init 69 = .ok (.putfield 23, 3) := by decide +kernel
theorem dX1_init_72 : decode cX1_init 72 = .ok (.return_, 1) := by decide +kernel
set_option maxRecDepth 20000 in
theorem ggX1_come_X1_checkTime : GoodIn wsX1_come wsX1_checkTime := goodIn_ca (goodIn_r _ [8, 9, 10, 11, 12, 7, 13] (by decide +kernel) (by decide +kernel)) (goodIn_sub (fun _ h => List.mem_cons_of_mem _ (List.mem_append_right _ h)) (by decide +kernel))
set_option maxRecDepth 20000 in
theorem gX1_come_X1_checkTime : GoodIn wsX1_come (va_wsS RX1 26 yX1_checkTime wsX1_checkTime) := goodIn_app (goodIn_of _ (by decide +kernel)) ggX1_come_X1_checkTime
set_option maxRecDepth 20000 in
theorem ggX1_come_X0_putHands : GoodIn wsX1_come wsX0_putHands := goodIn_r _ [17, 18, 19, 24, 25, 26, 27, 28, 29, 30, 31, 32, 33, 34, 35, 36, 37] (by decide +kernel) (by decide +kernel)
set_option maxRecDepth 20000 in
theorem gX1_come_X0_putHands_n37 : GoodIn wsX1_come (wsX0_putHands) := ggX1_come_X0_putHands
theorem dX1_come_0 : decode cX1_come 0 = .ok (.iload_n 1, 1) := by decide +kernel
theorem dX1_come_1 : decode cX1_come 1 = .ok (.invokestatic 26, 3) := by decide +kernel
theorem dX1_come_4 : decode cX1_come 4 = .ok (.aload_n 0, 1) := by decide +kernel
theorem dX1_come_5 : decode cX1_come 5 = .ok (.getfield 19, 3) := by decide +kernel
theorem dX1_come_8 : decode cX1_come 8 = .ok (.bipush 10, 2) := by decide +kernel
theorem dX1_come_10 : decode cX1_come 10 = .ok (.if_icmp .lt 13, 3) := by decide +kernel
theorem dX1_come_13 : decode cX1_come 13 = .ok (.new 30, 3) := by decide +kernel
theorem dX1_come_16 : decode cX1_come 16 = .ok (.dup, 1) := by decide +kernel
theorem dX1_come_17 : decode cX1_come 17 = .ok (.ldc 32, 2) := by decide +kernel
theorem dX1_come_19 : decode cX1_come 19 = .ok (.invokespecial 34, 3) := by decide +kernel
theorem dX1_come_22 : decode cX1_come 22 = .ok (.athrow, 1) := by decide +kernel
theorem dX1_come_23 : decode cX1_come 23 = .ok (.aload_n 0, 1) := by decide +kernel
theorem dX1_come_24 : decode cX1_come 24 = .ok (.getfield 11, 3) := by decide +kernel
theorem dX1_come_27 : decode cX1_come 27 = .ok (.aload_n 0, 1) := by decide +kernel
theorem dX1_come_28 : decode cX1_come 28 = .ok (.getfield 19, 3) := by decide +kernel
theorem dX1_come_31 : decode cX1_come 31 = .ok (.aaload, 1) := by decide +kernel
theorem dX1_come_32 : decode cX1_come 32 = .ok (.iload_n 1, 1) := by decide +kernel
theorem dX1_come_33 : decode cX1_come 33 = .ok (.invokevirtual 37, 3) := by decide +kernel
theorem dX1_come_36 : decode cX1_come 36 = .ok (.aload_n 0, 1) := by decide +kernel
theorem dX1_come_37 : decode cX1_come 37 = .ok (.dup, 1) := by decide +kernel
theorem dX1_come_38 : decode cX1_come 38 = .ok (.getfield 19, 3) := by decide +kernel
theorem dX1_come_41 : decode cX1_come 41 = .ok (.iconst 1, 1) := by decide +kernel
theorem dX1_come_42 : decode cX1_come 42 = .ok (.iadd, 1) := by decide +kernel
theorem dX1_come_43 : decode cX1_come 43 = .ok (.putfield 19, 3) := by decide +kernel
theorem dX1_come_46 : decode cX1_come 46 = .ok (.aload_n 0, 1) := by decide +kernel
theorem dX1_come_47 : decode cX1_come 47 = .ok (.getfield 19, 3) := by decide +kernel
theorem dX1_come_50 : decode cX1_come 50 = .ok (.iconst 1, 1) := by decide +kernel
theorem dX1_come_51 : decode cX1_come 51 = .ok (.isub, 1) := by decide +kernel
theorem dX1_come_52 : decode cX1_come 52 = .ok (.ireturn, 1) := by decide +kernel
set_option maxRecDepth 20000 in
theorem ggX1_gear_X1_checkClock : GoodIn wsX1_gear wsX1_checkClock := goodIn_ca (goodIn_r _ [8, 9, 10, 11, 30, 31, 32, 33] (by decide +kernel) (by decide +kernel)) (goodIn_sub (fun _ h => List.mem_cons_of_mem _ (List.mem_append_right _ h)) (by decide +kernel))
set_option maxRecDepth 20000 in
theorem gX1_gear_X1_checkClock : GoodIn wsX1_gear (wsV RX1 40 RX1 yX1_checkClock wsX1_checkClock) := goodIn_app (goodIn_of _ (by decide +kernel)) ggX1_gear_X1_checkClock
set_option maxRecDepth 20000 in
theorem ggX1_gear_X1_isWithin : GoodIn wsX1_gear wsX1_isWithin := goodIn_r _ [14] (by decide +kernel) (by decide +kernel)
set_option maxRecDepth 20000 in
theorem gX1_gear_X1_isWithin : GoodIn wsX1_gear (va_wsS RX1 43 yX1_isWithin wsX1_isWithin) := goodIn_app (goodIn_of _ (by decide +kernel)) ggX1_gear_X1_isWithin
set_option maxRecDepth 20000 in
theorem ggX1_gear_X0_fitTrain : GoodIn wsX1_gear wsX0_fitTrain := goodIn_r _ [18, 19, 20, 21, 34, 35, 36, 37, 38, 39, 40, 41, 42, 43, 44, 45, 46, 47] (by decide +kernel) (by decide +kernel)
set_option maxRecDepth 20000 in
theorem gX1_gear_X0_fitTrain_n54 : GoodIn wsX1_gear (wsX0_fitTrain) := ggX1_gear_X0_fitTrain
set_option maxRecDepth 20000 in
theorem ggX1_gear_X0_advance : GoodIn wsX1_gear wsX0_advance := goodIn_r _ [24, 19, 20, 25, 26, 27, 16, 28, 21, 29, 34, 35, 36, 37, 38, 39, 40, 41, 42, 43, 44, 45, 46, 47] (by decide +kernel) (by decide +kernel)
set_option maxRecDepth 20000 in
theorem gX1_gear_X0_advance_n58 : GoodIn wsX1_gear (wsX0_advance) := ggX1_gear_X0_advance
theorem dX1_gear_0 : decode cX1_gear 0 = .ok (.aload_n 0, 1) := by decide +kernel
theorem dX1_gear_1 : decode cX1_gear 1 = .ok (.iload_n 1, 1) := by decide +kernel
theorem dX1_gear_2 : decode cX1_gear 2 = .ok (.invokevirtual 40, 3) := by decide +kernel
theorem dX1_gear_5 : decode cX1_gear 5 = .ok (.iload_n 2, 1) := by decide +kernel
theorem dX1_gear_6 : decode cX1_gear 6 = .ok (.bipush 20, 2) := by decide +kernel
theorem dX1_gear_8 : decode cX1_gear 8 = .ok (.bipush 40, 2) := by decide +kernel
theorem dX1_gear_10 : decode cX1_gear 10 = .ok (.invokestatic 43, 3) := by decide +kernel
theorem dX1_gear_13 : decode cX1_gear 13 = .ok (.ifCond .eq 14, 3) := by decide +kernel
theorem dX1_gear_16 : decode cX1_gear 16 = .ok (.iload_n 3, 1) := by decide +kernel
theorem dX1_gear_17 : decode cX1_gear 17 = .ok (.bipush 20, 2) := by decide +kernel
theorem dX1_gear_19 : decode cX1_gear 19 = .ok (.bipush 40, 2) := by decide +kernel
theorem dX1_gear_21 : decode cX1_gear 21 = .ok (.invokestatic 43, 3) := by decide +kernel
theorem dX1_gear_24 : decode cX1_gear 24 = .ok (.ifCond .ne 13, 3) := by decide +kernel
theorem dX1_gear_27 : decode cX1_gear 27 = .ok (.new 47, 3) := by decide +kernel
theorem dX1_gear_30 : decode cX1_gear 30 = .ok (.dup, 1) := by decide +kernel
theorem dX1_gear_31 : decode cX1_gear 31 = .ok (.ldc 49, 2) := by decide +kernel
theorem dX1_gear_33 : decode cX1_gear 33 = .ok (.invokespecial 51, 3) := by decide +kernel
theorem dX1_gear_36 : decode cX1_gear 36 = .ok (.athrow, 1) := by decide +kernel
theorem dX1_gear_37 : decode cX1_gear 37 = .ok (.iload 4, 2) := by decide +kernel
theorem dX1_gear_39 : decode cX1_gear 39 = .ok (.bipush (-20), 2) := by decide +kernel
theorem dX1_gear_41 : decode cX1_gear 41 = .ok (.bipush 20, 2) := by decide +kernel
theorem dX1_gear_43 : decode cX1_gear 43 = .ok (.invokestatic 43, 3) := by decide +kernel
theorem dX1_gear_46 : decode cX1_gear 46 = .ok (.ifCond .ne 13, 3) := by decide +kernel
theorem dX1_gear_49 : decode cX1_gear 49 = .ok (.new 47, 3) := by decide +kernel
theorem dX1_gear_52 : decode cX1_gear 52 = .ok (.dup, 1) := by decide +kernel
theorem dX1_gear_53 : decode cX1_gear 53 = .ok (.ldc 52, 2) := by decide +kernel
theorem dX1_gear_55 : decode cX1_gear 55 = .ok (.invokespecial 51, 3) := by decide +kernel
theorem dX1_gear_58 : decode cX1_gear 58 = .ok (.athrow, 1) := by decide +kernel
theorem dX1_gear_59 : decode cX1_gear 59 = .ok (.aload_n 0, 1) := by decide +kernel
theorem dX1_gear_60 : decode cX1_gear 60 = .ok (.getfield 11, 3) := by decide +kernel
theorem dX1_gear_63 : decode cX1_gear 63 = .ok (.iload_n 1, 1) := by decide +kernel
theorem dX1_gear_64 : decode cX1_gear 64 = .ok (.aaload, 1) := by decide +kernel
theorem dX1_gear_65 : decode cX1_gear 65 = .ok (.iload_n 2, 1) := by decide +kernel
theorem dX1_gear_66 : decode cX1_gear 66 = .ok (.iload_n 3, 1) := by decide +kernel
theorem dX1_gear_67 : decode cX1_gear 67 = .ok (.iload 4, 2) := by decide +kernel
theorem dX1_gear_69 : decode cX1_gear 69 = .ok (.invokevirtual 54, 3) := by decide +kernel
theorem dX1_gear_72 : decode cX1_gear 72 = .ok (.aload_n 0, 1) := by decide +kernel
theorem dX1_gear_73 : decode cX1_gear 73 = .ok (.getfield 11, 3) := by decide +kernel
theorem dX1_gear_76 : decode cX1_gear 76 = .ok (.iload_n 1, 1) := by decide +kernel
theorem dX1_gear_77 : decode cX1_gear 77 = .ok (.aaload, 1) := by decide +kernel
theorem dX1_gear_78 : decode cX1_gear 78 = .ok (.invokevirtual 58, 3) := by decide +kernel
theorem dX1_gear_81 : decode cX1_gear 81 = .ok (.ireturn, 1) := by decide +kernel
set_option maxRecDepth 20000 in
theorem ggX1_set_X1_checkClock : GoodIn wsX1_set wsX1_checkClock := goodIn_ca (goodIn_r _ [7, 8, 9, 10, 35, 36, 37, 38] (by decide +kernel) (by decide +kernel)) (goodIn_sub (fun _ h => List.mem_cons_of_mem _ (List.mem_append_left _ (List.mem_append_right _ h))) (by decide +kernel))
set_option maxRecDepth 20000 in
theorem gX1_set_X1_checkClock : GoodIn wsX1_set (wsV RX1 40 RX1 yX1_checkClock wsX1_checkClock) := goodIn_app (goodIn_of _ (by decide +kernel)) ggX1_set_X1_checkClock
set_option maxRecDepth 20000 in
theorem ggX1_set_X1_checkTime : GoodIn wsX1_set wsX1_checkTime := goodIn_ca (goodIn_r _ [13, 14, 15, 16, 17, 6, 18] (by decide +kernel) (by decide +kernel)) (goodIn_sub (fun _ h => List.mem_cons_of_mem _ (List.mem_append_right _ h)) (by decide +kernel))
set_option maxRecDepth 20000 in
theorem gX1_set_X1_checkTime : GoodIn wsX1_set (va_wsS RX1 26 yX1_checkTime wsX1_checkTime) := goodIn_app (goodIn_of _ (by decide +kernel)) ggX1_set_X1_checkTime
set_option maxRecDepth 20000 in
theorem ggX1_set_X1_offOf : GoodIn wsX1_set wsX1_offOf := goodIn_r _ [21, 22, 23, 6, 24, 25, 26, 27, 28, 39, 40, 41, 42, 43, 44, 45, 46, 47, 48, 49, 50, 51, 52] (by decide +kernel) (by decide +kernel)
set_option maxRecDepth 20000 in
theorem gX1_set_X1_offOf : GoodIn wsX1_set (va_wsS RX1 62 yX1_offOf wsX1_offOf) := goodIn_app (goodIn_of _ (by decide +kernel)) ggX1_set_X1_offOf
set_option maxRecDepth 20000 in
theorem ggX1_set_X0_putHands : GoodIn wsX1_set wsX0_putHands := goodIn_r _ [32, 33, 34, 39, 40, 41, 42, 43, 44, 45, 46, 47, 48, 49, 50, 51, 52] (by decide +kernel) (by decide +kernel)
set_option maxRecDepth 20000 in
theorem gX1_set_X0_putHands_n37 : GoodIn wsX1_set (wsX0_putHands) := ggX1_set_X0_putHands
theorem dX1_set_0 : decode cX1_set 0 = .ok (.aload_n 0, 1) := by decide +kernel
theorem dX1_set_1 : decode cX1_set 1 = .ok (.iload_n 1, 1) := by decide +kernel
theorem dX1_set_2 : decode cX1_set 2 = .ok (.invokevirtual 40, 3) := by decide +kernel
theorem dX1_set_5 : decode cX1_set 5 = .ok (.iload_n 2, 1) := by decide +kernel
theorem dX1_set_6 : decode cX1_set 6 = .ok (.invokestatic 26, 3) := by decide +kernel
theorem dX1_set_9 : decode cX1_set 9 = .ok (.aload_n 0, 1) := by decide +kernel
theorem dX1_set_10 : decode cX1_set 10 = .ok (.getfield 11, 3) := by decide +kernel
theorem dX1_set_13 : decode cX1_set 13 = .ok (.iload_n 1, 1) := by decide +kernel
theorem dX1_set_14 : decode cX1_set 14 = .ok (.aaload, 1) := by decide +kernel
theorem dX1_set_15 : decode cX1_set 15 = .ok (.aload_n 0, 1) := by decide +kernel
theorem dX1_set_16 : decode cX1_set 16 = .ok (.getfield 23, 3) := by decide +kernel
theorem dX1_set_19 : decode cX1_set 19 = .ok (.invokestatic 62, 3) := by decide +kernel
theorem dX1_set_22 : decode cX1_set 22 = .ok (.istore_n 3, 1) := by decide +kernel
theorem dX1_set_23 : decode cX1_set 23 = .ok (.aload_n 0, 1) := by decide +kernel
theorem dX1_set_24 : decode cX1_set 24 = .ok (.getfield 11, 3) := by decide +kernel
theorem dX1_set_27 : decode cX1_set 27 = .ok (.iload_n 1, 1) := by decide +kernel
theorem dX1_set_28 : decode cX1_set 28 = .ok (.aaload, 1) := by decide +kernel
theorem dX1_set_29 : decode cX1_set 29 = .ok (.iload_n 2, 1) := by decide +kernel
theorem dX1_set_30 : decode cX1_set 30 = .ok (.invokevirtual 37, 3) := by decide +kernel
theorem dX1_set_33 : decode cX1_set 33 = .ok (.iload_n 3, 1) := by decide +kernel
theorem dX1_set_34 : decode cX1_set 34 = .ok (.ireturn, 1) := by decide +kernel
set_option maxRecDepth 20000 in
theorem ggX1_wind_X1_checkClock : GoodIn wsX1_wind wsX1_checkClock := goodIn_ca (goodIn_r _ [6, 7, 8, 9, 16, 17, 18, 19] (by decide +kernel) (by decide +kernel)) (goodIn_sub (fun _ h => List.mem_cons_of_mem _ (List.mem_append_right _ h)) (by decide +kernel))
set_option maxRecDepth 20000 in
theorem gX1_wind_X1_checkClock : GoodIn wsX1_wind (wsV RX1 40 RX1 yX1_checkClock wsX1_checkClock) := goodIn_app (goodIn_of _ (by decide +kernel)) ggX1_wind_X1_checkClock
set_option maxRecDepth 20000 in
theorem ggX1_wind_X0_drawUp : GoodIn wsX1_wind wsX0_drawUp := goodIn_r _ [13, 14, 15, 20, 21, 22, 23, 24, 25, 26, 27, 28, 29, 30, 31, 32, 33] (by decide +kernel) (by decide +kernel)
set_option maxRecDepth 20000 in
theorem gX1_wind_X0_drawUp_n66 : GoodIn wsX1_wind (wsX0_drawUp) := ggX1_wind_X0_drawUp
theorem dX1_wind_0 : decode cX1_wind 0 = .ok (.aload_n 0, 1) := by decide +kernel
theorem dX1_wind_1 : decode cX1_wind 1 = .ok (.iload_n 1, 1) := by decide +kernel
theorem dX1_wind_2 : decode cX1_wind 2 = .ok (.invokevirtual 40, 3) := by decide +kernel
theorem dX1_wind_5 : decode cX1_wind 5 = .ok (.aload_n 0, 1) := by decide +kernel
theorem dX1_wind_6 : decode cX1_wind 6 = .ok (.getfield 11, 3) := by decide +kernel
theorem dX1_wind_9 : decode cX1_wind 9 = .ok (.iload_n 1, 1) := by decide +kernel
theorem dX1_wind_10 : decode cX1_wind 10 = .ok (.aaload, 1) := by decide +kernel
theorem dX1_wind_11 : decode cX1_wind 11 = .ok (.invokevirtual 66, 3) := by decide +kernel
theorem dX1_wind_14 : decode cX1_wind 14 = .ok (.ireturn, 1) := by decide +kernel
set_option maxRecDepth 20000 in
theorem ggX1_mend_X1_checkClock : GoodIn wsX1_mend wsX1_checkClock := goodIn_ca (goodIn_r _ [8, 9, 10, 11, 26, 27, 28, 29] (by decide +kernel) (by decide +kernel)) (goodIn_sub (fun _ h => List.mem_cons_of_mem _ (List.mem_append_right _ h)) (by decide +kernel))
set_option maxRecDepth 20000 in
theorem gX1_mend_X1_checkClock : GoodIn wsX1_mend (wsV RX1 40 RX1 yX1_checkClock wsX1_checkClock) := goodIn_app (goodIn_of _ (by decide +kernel)) ggX1_mend_X1_checkClock
set_option maxRecDepth 20000 in
theorem ggX1_mend_X0_fillOil : GoodIn wsX1_mend wsX0_fillOil := goodIn_r _ [15, 16, 30, 31, 32, 33, 34, 35, 36, 37, 38, 39, 40, 41, 42, 43] (by decide +kernel) (by decide +kernel)
set_option maxRecDepth 20000 in
theorem gX1_mend_X0_fillOil_n69 : GoodIn wsX1_mend (wsX0_fillOil) := ggX1_mend_X0_fillOil
set_option maxRecDepth 20000 in
theorem ggX1_mend_X0_patchBellows : GoodIn wsX1_mend wsX0_patchBellows := goodIn_r _ [19, 20, 30, 31, 32, 33, 34, 35, 36, 37, 38, 39, 40, 41, 42, 43] (by decide +kernel) (by decide +kernel)
set_option maxRecDepth 20000 in
theorem gX1_mend_X0_patchBellows_n72 : GoodIn wsX1_mend (wsX0_patchBellows) := ggX1_mend_X0_patchBellows
set_option maxRecDepth 20000 in
theorem ggX1_mend_X0_nudge : GoodIn wsX1_mend wsX0_nudge := goodIn_r _ [23, 24, 25, 30, 31, 32, 33, 34, 35, 36, 37, 38, 39, 40, 41, 42, 43] (by decide +kernel) (by decide +kernel)
set_option maxRecDepth 20000 in
theorem gX1_mend_X0_nudge_n75 : GoodIn wsX1_mend (wsX0_nudge) := ggX1_mend_X0_nudge
theorem dX1_mend_0 : decode cX1_mend 0 = .ok (.aload_n 0, 1) := by decide +kernel
theorem dX1_mend_1 : decode cX1_mend 1 = .ok (.iload_n 1, 1) := by decide +kernel
theorem dX1_mend_2 : decode cX1_mend 2 = .ok (.invokevirtual 40, 3) := by decide +kernel
theorem dX1_mend_5 : decode cX1_mend 5 = .ok (.iload_n 2, 1) := by decide +kernel
theorem dX1_mend_6 : decode cX1_mend 6 = .ok (.tableswitch 56 0 2 #[26, 36, 46], 26) := by decide +kernel
theorem dX1_mend_32 : decode cX1_mend 32 = .ok (.aload_n 0, 1) := by decide +kernel
theorem dX1_mend_33 : decode cX1_mend 33 = .ok (.getfield 11, 3) := by decide +kernel
theorem dX1_mend_36 : decode cX1_mend 36 = .ok (.iload_n 1, 1) := by decide +kernel
theorem dX1_mend_37 : decode cX1_mend 37 = .ok (.aaload, 1) := by decide +kernel
theorem dX1_mend_38 : decode cX1_mend 38 = .ok (.invokevirtual 69, 3) := by decide +kernel
theorem dX1_mend_41 : decode cX1_mend 41 = .ok (.ireturn, 1) := by decide +kernel
theorem dX1_mend_42 : decode cX1_mend 42 = .ok (.aload_n 0, 1) := by decide +kernel
theorem dX1_mend_43 : decode cX1_mend 43 = .ok (.getfield 11, 3) := by decide +kernel
theorem dX1_mend_46 : decode cX1_mend 46 = .ok (.iload_n 1, 1) := by decide +kernel
theorem dX1_mend_47 : decode cX1_mend 47 = .ok (.aaload, 1) := by decide +kernel
theorem dX1_mend_48 : decode cX1_mend 48 = .ok (.invokevirtual 72, 3) := by decide +kernel
theorem dX1_mend_51 : decode cX1_mend 51 = .ok (.ireturn, 1) := by decide +kernel
theorem dX1_mend_52 : decode cX1_mend 52 = .ok (.aload_n 0, 1) := by decide +kernel
theorem dX1_mend_53 : decode cX1_mend 53 = .ok (.getfield 11, 3) := by decide +kernel
theorem dX1_mend_56 : decode cX1_mend 56 = .ok (.iload_n 1, 1) := by decide +kernel
theorem dX1_mend_57 : decode cX1_mend 57 = .ok (.aaload, 1) := by decide +kernel
theorem dX1_mend_58 : decode cX1_mend 58 = .ok (.invokevirtual 75, 3) := by decide +kernel
theorem dX1_mend_61 : decode cX1_mend 61 = .ok (.ireturn, 1) := by decide +kernel
theorem dX1_mend_62 : decode cX1_mend 62 = .ok (.new 47, 3) := by decide +kernel
theorem dX1_mend_65 : decode cX1_mend 65 = .ok (.dup, 1) := by decide +kernel
theorem dX1_mend_66 : decode cX1_mend 66 = .ok (.ldc 78, 2) := by decide +kernel
theorem dX1_mend_68 : decode cX1_mend 68 = .ok (.invokespecial 51, 3) := by decide +kernel
theorem dX1_mend_71 : decode cX1_mend 71 = .ok (.athrow, 1) := by decide +kernel
set_option maxRecDepth 20000 in
theorem ggX1_shut_X1_checkClock : GoodIn wsX1_shut wsX1_checkClock := goodIn_ca (goodIn_r _ [8, 9, 10, 11, 24, 25, 26, 27] (by decide +kernel) (by decide +kernel)) (goodIn_sub (fun _ h => List.mem_cons_of_mem _ (List.mem_append_right _ h)) (by decide +kernel))
set_option maxRecDepth 20000 in
theorem gX1_shut_X1_checkClock : GoodIn wsX1_shut (wsV RX1 40 RX1 yX1_checkClock wsX1_checkClock) := goodIn_app (goodIn_of _ (by decide +kernel)) ggX1_shut_X1_checkClock
set_option maxRecDepth 20000 in
theorem ggX1_shut_X1_checkTime : GoodIn wsX1_shut wsX1_checkTime := goodIn_ca (goodIn_r _ [14, 1, 2, 15, 16, 7, 17] (by decide +kernel) (by decide +kernel)) (goodIn_sub (fun _ h => List.mem_cons_of_mem _ (List.mem_append_left _ (List.mem_append_right _ h))) (by decide +kernel))
set_option maxRecDepth 20000 in
theorem gX1_shut_X1_checkTime : GoodIn wsX1_shut (va_wsS RX1 26 yX1_checkTime wsX1_checkTime) := goodIn_app (goodIn_of _ (by decide +kernel)) ggX1_shut_X1_checkTime
set_option maxRecDepth 20000 in
theorem ggX1_shut_X0_silence : GoodIn wsX1_shut wsX0_silence := goodIn_r _ [21, 22, 23, 28, 29, 30, 31, 32, 33, 34, 35, 36, 37, 38, 39, 40, 41] (by decide +kernel) (by decide +kernel)
set_option maxRecDepth 20000 in
theorem gX1_shut_X0_silence_n82 : GoodIn wsX1_shut (wsX0_silence) := ggX1_shut_X0_silence
theorem dX1_shut_0 : decode cX1_shut 0 = .ok (.aload_n 0, 1) := by decide +kernel
theorem dX1_shut_1 : decode cX1_shut 1 = .ok (.iload_n 1, 1) := by decide +kernel
theorem dX1_shut_2 : decode cX1_shut 2 = .ok (.invokevirtual 40, 3) := by decide +kernel
theorem dX1_shut_5 : decode cX1_shut 5 = .ok (.iload_n 2, 1) := by decide +kernel
theorem dX1_shut_6 : decode cX1_shut 6 = .ok (.iconst (-1), 1) := by decide +kernel
theorem dX1_shut_7 : decode cX1_shut 7 = .ok (.if_icmp .eq 7, 3) := by decide +kernel
theorem dX1_shut_10 : decode cX1_shut 10 = .ok (.iload_n 2, 1) := by decide +kernel
theorem dX1_shut_11 : decode cX1_shut 11 = .ok (.invokestatic 26, 3) := by decide +kernel
theorem dX1_shut_14 : decode cX1_shut 14 = .ok (.iload_n 3, 1) := by decide +kernel
theorem dX1_shut_15 : decode cX1_shut 15 = .ok (.invokestatic 26, 3) := by decide +kernel
theorem dX1_shut_18 : decode cX1_shut 18 = .ok (.iload_n 2, 1) := by decide +kernel
theorem dX1_shut_19 : decode cX1_shut 19 = .ok (.iconst (-1), 1) := by decide +kernel
theorem dX1_shut_20 : decode cX1_shut 20 = .ok (.if_icmp .ne 17, 3) := by decide +kernel
theorem dX1_shut_23 : decode cX1_shut 23 = .ok (.iload_n 3, 1) := by decide +kernel
theorem dX1_shut_24 : decode cX1_shut 24 = .ok (.ifCond .eq 13, 3) := by decide +kernel
theorem dX1_shut_27 : decode cX1_shut 27 = .ok (.new 47, 3) := by decide +kernel
theorem dX1_shut_30 : decode cX1_shut 30 = .ok (.dup, 1) := by decide +kernel
theorem dX1_shut_31 : decode cX1_shut 31 = .ok (.ldc 80, 2) := by decide +kernel
theorem dX1_shut_33 : decode cX1_shut 33 = .ok (.invokespecial 51, 3) := by decide +kernel
theorem dX1_shut_36 : decode cX1_shut 36 = .ok (.athrow, 1) := by decide +kernel
theorem dX1_shut_37 : decode cX1_shut 37 = .ok (.aload_n 0, 1) := by decide +kernel
theorem dX1_shut_38 : decode cX1_shut 38 = .ok (.getfield 11, 3) := by decide +kernel
theorem dX1_shut_41 : decode cX1_shut 41 = .ok (.iload_n 1, 1) := by decide +kernel
theorem dX1_shut_42 : decode cX1_shut 42 = .ok (.aaload, 1) := by decide +kernel
theorem dX1_shut_43 : decode cX1_shut 43 = .ok (.iload_n 2, 1) := by decide +kernel
theorem dX1_shut_44 : decode cX1_shut 44 = .ok (.iload_n 3, 1) := by decide +kernel
theorem dX1_shut_45 : decode cX1_shut 45 = .ok (.invokevirtual 82, 3) := by decide +kernel
theorem dX1_shut_48 : decode cX1_shut 48 = .ok (.ireturn, 1) := by decide +kernel
set_option maxRecDepth 20000 in
theorem ggX1_clock_X1_checkClock : GoodIn wsX1_clock wsX1_checkClock := goodIn_ca (goodIn_r _ [8, 1, 2, 9, 43, 44, 45, 46] (by decide +kernel) (by decide +kernel)) (goodIn_sub (fun _ h => List.mem_cons_of_mem _ (List.mem_append_right _ h)) (by decide +kernel))
set_option maxRecDepth 20000 in
theorem gX1_clock_X1_checkClock : GoodIn wsX1_clock (wsV RX1 40 RX1 yX1_checkClock wsX1_checkClock) := goodIn_app (goodIn_of _ (by decide +kernel)) ggX1_clock_X1_checkClock
set_option maxRecDepth 20000 in
theorem ggX1_clock_X1_isWithin : GoodIn wsX1_clock wsX1_isWithin := goodIn_r _ [12] (by decide +kernel) (by decide +kernel)
set_option maxRecDepth 20000 in
theorem gX1_clock_X1_isWithin : GoodIn wsX1_clock (va_wsS RX1 43 yX1_isWithin wsX1_isWithin) := goodIn_app (goodIn_of _ (by decide +kernel)) ggX1_clock_X1_isWithin
set_option maxRecDepth 20000 in
theorem ggX1_clock_X0_reading : GoodIn wsX1_clock wsX0_reading := goodIn_r _ [16, 17, 18, 19, 20, 21, 22, 23, 24, 25, 26, 27, 28, 14, 29, 30, 31, 32, 33, 34, 35, 36, 37, 38, 39, 40, 41, 42, 47, 48, 49, 50, 51, 52, 53, 54, 55, 56, 57, 58, 59, 60] (by decide +kernel) (by decide +kernel)
set_option maxRecDepth 20000 in
theorem gX1_clock_X0_reading_n91 : GoodIn wsX1_clock (wsX0_reading) := ggX1_clock_X0_reading
theorem dX1_clock_0 : decode cX1_clock 0 = .ok (.aload_n 0, 1) := by decide +kernel
theorem dX1_clock_1 : decode cX1_clock 1 = .ok (.iload_n 1, 1) := by decide +kernel
theorem dX1_clock_2 : decode cX1_clock 2 = .ok (.invokevirtual 40, 3) := by decide +kernel
theorem dX1_clock_5 : decode cX1_clock 5 = .ok (.iload_n 2, 1) := by decide +kernel
theorem dX1_clock_6 : decode cX1_clock 6 = .ok (.iconst 0, 1) := by decide +kernel
theorem dX1_clock_7 : decode cX1_clock 7 = .ok (.bipush 10, 2) := by decide +kernel
theorem dX1_clock_9 : decode cX1_clock 9 = .ok (.invokestatic 43, 3) := by decide +kernel
theorem dX1_clock_12 : decode cX1_clock 12 = .ok (.ifCond .ne 13, 3) := by decide +kernel
theorem dX1_clock_15 : decode cX1_clock 15 = .ok (.new 86, 3) := by decide +kernel
theorem dX1_clock_18 : decode cX1_clock 18 = .ok (.dup, 1) := by decide +kernel
theorem dX1_clock_19 : decode cX1_clock 19 = .ok (.ldc 88, 2) := by decide +kernel
theorem dX1_clock_21 : decode cX1_clock 21 = .ok (.invokespecial 90, 3) := by decide +kernel
theorem dX1_clock_24 : decode cX1_clock 24 = .ok (.athrow, 1) := by decide +kernel
theorem dX1_clock_25 : decode cX1_clock 25 = .ok (.aload_n 0, 1) := by decide +kernel
theorem dX1_clock_26 : decode cX1_clock 26 = .ok (.getfield 11, 3) := by decide +kernel
theorem dX1_clock_29 : decode cX1_clock 29 = .ok (.iload_n 1, 1) := by decide +kernel
theorem dX1_clock_30 : decode cX1_clock 30 = .ok (.aaload, 1) := by decide +kernel
theorem dX1_clock_31 : decode cX1_clock 31 = .ok (.iload_n 2, 1) := by decide +kernel
theorem dX1_clock_32 : decode cX1_clock 32 = .ok (.invokevirtual 91, 3) := by decide +kernel
theorem dX1_clock_35 : decode cX1_clock 35 = .ok (.ireturn, 1) := by decide +kernel
set_option maxRecDepth 20000 in
theorem ggX1_off_X1_checkClock : GoodIn wsX1_off wsX1_checkClock := goodIn_ca (goodIn_r _ [7, 8, 9, 10, 21, 22, 23, 24] (by decide +kernel) (by decide +kernel)) (goodIn_sub (fun _ h => List.mem_cons_of_mem _ (List.mem_append_right _ h)) (by decide +kernel))
set_option maxRecDepth 20000 in
theorem gX1_off_X1_checkClock : GoodIn wsX1_off (wsV RX1 40 RX1 yX1_checkClock wsX1_checkClock) := goodIn_app (goodIn_of _ (by decide +kernel)) ggX1_off_X1_checkClock
set_option maxRecDepth 20000 in
theorem ggX1_off_X1_offOf : GoodIn wsX1_off wsX1_offOf := goodIn_r _ [13, 14, 15, 6, 16, 17, 18, 19, 20, 25, 26, 27, 28, 29, 30, 31, 32, 33, 34, 35, 36, 37, 38] (by decide +kernel) (by decide +kernel)
set_option maxRecDepth 20000 in
theorem gX1_off_X1_offOf : GoodIn wsX1_off (va_wsS RX1 62 yX1_offOf wsX1_offOf) := goodIn_app (goodIn_of _ (by decide +kernel)) ggX1_off_X1_offOf
theorem dX1_off_0 : decode cX1_off 0 = .ok (.aload_n 0, 1) := by decide +kernel
theorem dX1_off_1 : decode cX1_off 1 = .ok (.iload_n 1, 1) := by decide +kernel
theorem dX1_off_2 : decode cX1_off 2 = .ok (.invokevirtual 40, 3) := by decide +kernel
theorem dX1_off_5 : decode cX1_off 5 = .ok (.aload_n 0, 1) := by decide +kernel
theorem dX1_off_6 : decode cX1_off 6 = .ok (.getfield 11, 3) := by decide +kernel
theorem dX1_off_9 : decode cX1_off 9 = .ok (.iload_n 1, 1) := by decide +kernel
theorem dX1_off_10 : decode cX1_off 10 = .ok (.aaload, 1) := by decide +kernel
theorem dX1_off_11 : decode cX1_off 11 = .ok (.aload_n 0, 1) := by decide +kernel
theorem dX1_off_12 : decode cX1_off 12 = .ok (.getfield 23, 3) := by decide +kernel
theorem dX1_off_15 : decode cX1_off 15 = .ok (.invokestatic 62, 3) := by decide +kernel
theorem dX1_off_18 : decode cX1_off 18 = .ok (.ireturn, 1) := by decide +kernel
set_option maxRecDepth 20000 in
theorem ggX1_count_X1_isWithin : GoodIn wsX1_count wsX1_isWithin := goodIn_r _ [6] (by decide +kernel) (by decide +kernel)
set_option maxRecDepth 20000 in
theorem gX1_count_X1_isWithin : GoodIn wsX1_count (va_wsS RX1 43 yX1_isWithin wsX1_isWithin) := goodIn_app (goodIn_of _ (by decide +kernel)) ggX1_count_X1_isWithin
set_option maxRecDepth 20000 in
theorem ggX1_count_X1_tally : GoodIn wsX1_count wsX1_tally := goodIn_r _ [10, 11, 12, 13, 14, 15, 5, 16, 17, 18, 19, 20, 21, 22, 23, 24, 25, 26, 27, 28, 29, 30, 31, 32, 33, 34, 35, 36, 37, 38, 39, 40, 41, 42, 43, 44, 45, 46, 47, 48, 49, 50, 51, 52, 53, 54, 55, 56, 57, 58, 59, 60, 61, 62, 63, 64, 65, 66, 67, 68, 69, 70, 71, 72, 73, 74, 75, 76, 77, 78, 79, 80, 81, 82, 83, 84, 85, 86, 87] (by decide +kernel) (by decide +kernel)
set_option maxRecDepth 20000 in
theorem gX1_count_X1_tally : GoodIn wsX1_count (wsV RX1 97 RX1 yX1_tally wsX1_tally) := goodIn_app (goodIn_of _ (by decide +kernel)) ggX1_count_X1_tally
theorem dX1_count_0 : decode cX1_count 0 = .ok (.iload_n 1, 1) := by decide +kernel
theorem dX1_count_1 : decode cX1_count 1 = .ok (.iconst 0, 1) := by decide +kernel
theorem dX1_count_2 : decode cX1_count 2 = .ok (.bipush 7, 2) := by decide +kernel
theorem dX1_count_4 : decode cX1_count 4 = .ok (.invokestatic 43, 3) := by decide +kernel
theorem dX1_count_7 : decode cX1_count 7 = .ok (.ifCond .ne 13, 3) := by decide +kernel
theorem dX1_count_10 : decode cX1_count 10 = .ok (.new 86, 3) := by decide +kernel
theorem dX1_count_13 : decode cX1_count 13 = .ok (.dup, 1) := by decide +kernel
theorem dX1_count_14 : decode cX1_count 14 = .ok (.ldc 95, 2) := by decide +kernel
theorem dX1_count_16 : decode cX1_count 16 = .ok (.invokespecial 90, 3) := by decide +kernel
theorem dX1_count_19 : decode cX1_count 19 = .ok (.athrow, 1) := by decide +kernel
theorem dX1_count_20 : decode cX1_count 20 = .ok (.aload_n 0, 1) := by decide +kernel
theorem dX1_count_21 : decode cX1_count 21 = .ok (.iload_n 1, 1) := by decide +kernel
theorem dX1_count_22 : decode cX1_count 22 = .ok (.invokevirtual 97, 3) := by decide +kernel
theorem dX1_count_25 : decode cX1_count 25 = .ok (.ireturn, 1) := by decide +kernel
set_option maxRecDepth 20000 in
theorem ggX1_pass_X1_checkMinutes : GoodIn wsX1_pass wsX1_checkMinutes := goodIn_ca (goodIn_r _ [6, 7, 8, 9, 10, 5, 11] (by decide +kernel) (by decide +kernel)) (goodIn_sub (fun _ h => List.mem_cons_of_mem _ (List.mem_append_right _ h)) (by decide +kernel))
set_option maxRecDepth 20000 in
theorem gX1_pass_X1_checkMinutes : GoodIn wsX1_pass (va_wsS RX1 100 yX1_checkMinutes wsX1_checkMinutes) := goodIn_app (goodIn_of _ (by decide +kernel)) ggX1_pass_X1_checkMinutes
set_option maxRecDepth 20000 in
theorem ggX1_pass_X1_runRow : GoodIn wsX1_pass wsX1_runRow := goodIn_r _ [15, 16, 17, 18, 19, 20, 21, 22, 23, 24, 25, 26, 27, 28, 29, 30, 31, 32, 33, 34, 35, 36, 37, 38, 39, 40, 41, 42, 43, 44, 45, 46, 47, 48, 49, 50, 51, 52, 53, 54, 55, 56, 57, 58, 59, 60, 61, 62, 63, 64, 65, 66, 67, 68, 69, 70, 71, 72, 73, 74, 75, 76, 77, 78, 79, 80, 81, 82, 83] (by decide +kernel) (by decide +kernel)
set_option maxRecDepth 20000 in
theorem gX1_pass_X1_runRow : GoodIn wsX1_pass (wsV RX1 103 RX1 yX1_runRow wsX1_runRow) := goodIn_app (goodIn_of _ (by decide +kernel)) ggX1_pass_X1_runRow
theorem dX1_pass_0 : decode cX1_pass 0 = .ok (.iload_n 1, 1) := by decide +kernel
theorem dX1_pass_1 : decode cX1_pass 1 = .ok (.invokestatic 100, 3) := by decide +kernel
theorem dX1_pass_4 : decode cX1_pass 4 = .ok (.iconst 0, 1) := by decide +kernel
theorem dX1_pass_5 : decode cX1_pass 5 = .ok (.istore_n 2, 1) := by decide +kernel
theorem dX1_pass_6 : decode cX1_pass 6 = .ok (.iconst 0, 1) := by decide +kernel
theorem dX1_pass_7 : decode cX1_pass 7 = .ok (.istore_n 3, 1) := by decide +kernel
theorem dX1_pass_8 : decode cX1_pass 8 = .ok (.iload_n 3, 1) := by decide +kernel
theorem dX1_pass_9 : decode cX1_pass 9 = .ok (.iload_n 1, 1) := by decide +kernel
theorem dX1_pass_10 : decode cX1_pass 10 = .ok (.if_icmp .ge 34, 3) := by decide +kernel
theorem dX1_pass_13 : decode cX1_pass 13 = .ok (.iload_n 2, 1) := by decide +kernel
theorem dX1_pass_14 : decode cX1_pass 14 = .ok (.aload_n 0, 1) := by decide +kernel
theorem dX1_pass_15 : decode cX1_pass 15 = .ok (.aload_n 0, 1) := by decide +kernel
theorem dX1_pass_16 : decode cX1_pass 16 = .ok (.getfield 11, 3) := by decide +kernel
theorem dX1_pass_19 : decode cX1_pass 19 = .ok (.aload_n 0, 1) := by decide +kernel
theorem dX1_pass_20 : decode cX1_pass 20 = .ok (.getfield 23, 3) := by decide +kernel
theorem dX1_pass_23 : decode cX1_pass 23 = .ok (.invokevirtual 103, 3) := by decide +kernel
theorem dX1_pass_26 : decode cX1_pass 26 = .ok (.iadd, 1) := by decide +kernel
theorem dX1_pass_27 : decode cX1_pass 27 = .ok (.istore_n 2, 1) := by decide +kernel
theorem dX1_pass_28 : decode cX1_pass 28 = .ok (.aload_n 0, 1) := by decide +kernel
theorem dX1_pass_29 : decode cX1_pass 29 = .ok (.dup, 1) := by decide +kernel
theorem dX1_pass_30 : decode cX1_pass 30 = .ok (.getfield 23, 3) := by decide +kernel
theorem dX1_pass_33 : decode cX1_pass 33 = .ok (.iconst 1, 1) := by decide +kernel
theorem dX1_pass_34 : decode cX1_pass 34 = .ok (.iadd, 1) := by decide +kernel
theorem dX1_pass_35 : decode cX1_pass 35 = .ok (.putfield 23, 3) := by decide +kernel
theorem dX1_pass_38 : decode cX1_pass 38 = .ok (.iinc 3 1, 3) := by decide +kernel
theorem dX1_pass_41 : decode cX1_pass 41 = .ok (.goto (-33), 3) := by decide +kernel
theorem dX1_pass_44 : decode cX1_pass 44 = .ok (.iload_n 2, 1) := by decide +kernel
theorem dX1_pass_45 : decode cX1_pass 45 = .ok (.ireturn, 1) := by decide +kernel
set_option maxRecDepth 20000 in
theorem ggX1_next_X1_checkClock : GoodIn wsX1_next wsX1_checkClock := goodIn_ca (goodIn_r _ [8, 9, 10, 11, 64, 65, 66, 67] (by decide +kernel) (by decide +kernel)) (goodIn_sub (fun _ h => List.mem_cons_of_mem _ (List.mem_append_right _ h)) (by decide +kernel))
set_option maxRecDepth 20000 in
theorem gX1_next_X1_checkClock : GoodIn wsX1_next (wsV RX1 40 RX1 yX1_checkClock wsX1_checkClock) := goodIn_app (goodIn_of _ (by decide +kernel)) ggX1_next_X1_checkClock
set_option maxRecDepth 20000 in
theorem ggX1_next_X0_copyFrom : GoodIn wsX1_next wsX0_copyFrom := goodIn_r _ [15, 16, 17, 18, 19, 20, 21, 22, 23, 24, 25, 26, 27, 28, 29, 68, 69, 70, 71, 72, 73, 74, 75, 76, 77, 78, 79, 80, 81] (by decide +kernel) (by decide +kernel)
set_option maxRecDepth 20000 in
theorem gX1_next_X0_copyFrom_n107 : GoodIn wsX1_next (wsX0_copyFrom) := ggX1_next_X0_copyFrom
set_option maxRecDepth 20000 in
theorem ggX1_next_X0_runMinute : GoodIn wsX1_next wsX0_runMinute := goodIn_r _ [32, 29, 22, 33, 34, 35, 13, 36, 24, 23, 37, 38, 39, 40, 16, 17, 41, 42, 43, 44, 18, 20, 45, 46, 47, 48, 25, 26, 49, 50, 51, 52, 53, 54, 55, 21, 56, 57, 58, 59, 27, 28, 60, 61, 62, 63, 19, 68, 69, 70, 71, 72, 73, 74, 75, 76, 77, 78, 79, 80, 81] (by decide +kernel) (by decide +kernel)
set_option maxRecDepth 20000 in
theorem gX1_next_X0_runMinute_n111 : GoodIn wsX1_next (wsX0_runMinute) := ggX1_next_X0_runMinute
theorem dX1_next_0 : decode cX1_next 0 = .ok (.aload_n 0, 1) := by decide +kernel
theorem dX1_next_1 : decode cX1_next 1 = .ok (.iload_n 1, 1) := by decide +kernel
theorem dX1_next_2 : decode cX1_next 2 = .ok (.invokevirtual 40, 3) := by decide +kernel
theorem dX1_next_5 : decode cX1_next 5 = .ok (.aload_n 0, 1) := by decide +kernel
theorem dX1_next_6 : decode cX1_next 6 = .ok (.getfield 15, 3) := by decide +kernel
theorem dX1_next_9 : decode cX1_next 9 = .ok (.iload_n 1, 1) := by decide +kernel
theorem dX1_next_10 : decode cX1_next 10 = .ok (.aaload, 1) := by decide +kernel
theorem dX1_next_11 : decode cX1_next 11 = .ok (.astore_n 2, 1) := by decide +kernel
theorem dX1_next_12 : decode cX1_next 12 = .ok (.aload_n 2, 1) := by decide +kernel
theorem dX1_next_13 : decode cX1_next 13 = .ok (.aload_n 0, 1) := by decide +kernel
theorem dX1_next_14 : decode cX1_next 14 = .ok (.getfield 11, 3) := by decide +kernel
theorem dX1_next_17 : decode cX1_next 17 = .ok (.iload_n 1, 1) := by decide +kernel
theorem dX1_next_18 : decode cX1_next 18 = .ok (.aaload, 1) := by decide +kernel
theorem dX1_next_19 : decode cX1_next 19 = .ok (.invokevirtual 107, 3) := by decide +kernel
theorem dX1_next_22 : decode cX1_next 22 = .ok (.iconst 0, 1) := by decide +kernel
theorem dX1_next_23 : decode cX1_next 23 = .ok (.istore_n 3, 1) := by decide +kernel
theorem dX1_next_24 : decode cX1_next 24 = .ok (.iload_n 3, 1) := by decide +kernel
theorem dX1_next_25 : decode cX1_next 25 = .ok (.sipush 720, 3) := by decide +kernel
theorem dX1_next_28 : decode cX1_next 28 = .ok (.if_icmp .ge 30, 3) := by decide +kernel
theorem dX1_next_31 : decode cX1_next 31 = .ok (.aload_n 2, 1) := by decide +kernel
theorem dX1_next_32 : decode cX1_next 32 = .ok (.aload_n 0, 1) := by decide +kernel
theorem dX1_next_33 : decode cX1_next 33 = .ok (.getfield 23, 3) := by decide +kernel
theorem dX1_next_36 : decode cX1_next 36 = .ok (.iload_n 3, 1) := by decide +kernel
theorem dX1_next_37 : decode cX1_next 37 = .ok (.iadd, 1) := by decide +kernel
theorem dX1_next_38 : decode cX1_next 38 = .ok (.invokevirtual 111, 3) := by decide +kernel
theorem dX1_next_41 : decode cX1_next 41 = .ok (.aload_n 2, 1) := by decide +kernel
theorem dX1_next_42 : decode cX1_next 42 = .ok (.getfield 114, 3) := by decide +kernel
theorem dX1_next_45 : decode cX1_next 45 = .ok (.ifCond .le 7, 3) := by decide +kernel
theorem dX1_next_48 : decode cX1_next 48 = .ok (.iload_n 3, 1) := by decide +kernel
theorem dX1_next_49 : decode cX1_next 49 = .ok (.iconst 1, 1) := by decide +kernel
theorem dX1_next_50 : decode cX1_next 50 = .ok (.iadd, 1) := by decide +kernel
theorem dX1_next_51 : decode cX1_next 51 = .ok (.ireturn, 1) := by decide +kernel
theorem dX1_next_52 : decode cX1_next 52 = .ok (.iinc 3 1, 3) := by decide +kernel
theorem dX1_next_55 : decode cX1_next 55 = .ok (.goto (-31), 3) := by decide +kernel
theorem dX1_next_58 : decode cX1_next 58 = .ok (.iconst (-1), 1) := by decide +kernel
theorem dX1_next_59 : decode cX1_next 59 = .ok (.ireturn, 1) := by decide +kernel
set_option maxRecDepth 20000 in
theorem ggX1_stands_X1_checkClock : GoodIn wsX1_stands wsX1_checkClock := goodIn_ca (goodIn_r _ [6, 7, 8, 9, 16, 17, 18, 19] (by decide +kernel) (by decide +kernel)) (goodIn_sub (fun _ h => List.mem_cons_of_mem _ (List.mem_append_right _ h)) (by decide +kernel))
set_option maxRecDepth 20000 in
theorem gX1_stands_X1_checkClock : GoodIn wsX1_stands (wsV RX1 40 RX1 yX1_checkClock wsX1_checkClock) := goodIn_app (goodIn_of _ (by decide +kernel)) ggX1_stands_X1_checkClock
set_option maxRecDepth 20000 in
theorem ggX1_stands_X0_minutesToStand : GoodIn wsX1_stands wsX0_minutesToStand := goodIn_r _ [13, 14, 15, 20, 21, 22, 23, 24, 25, 26, 27, 28, 29, 30, 31, 32, 33] (by decide +kernel) (by decide +kernel)
set_option maxRecDepth 20000 in
theorem gX1_stands_X0_minutesToStand_n117 : GoodIn wsX1_stands (wsX0_minutesToStand) := ggX1_stands_X0_minutesToStand
theorem dX1_stands_0 : decode cX1_stands 0 = .ok (.aload_n 0, 1) := by decide +kernel
theorem dX1_stands_1 : decode cX1_stands 1 = .ok (.iload_n 1, 1) := by decide +kernel
theorem dX1_stands_2 : decode cX1_stands 2 = .ok (.invokevirtual 40, 3) := by decide +kernel
theorem dX1_stands_5 : decode cX1_stands 5 = .ok (.aload_n 0, 1) := by decide +kernel
theorem dX1_stands_6 : decode cX1_stands 6 = .ok (.getfield 11, 3) := by decide +kernel
theorem dX1_stands_9 : decode cX1_stands 9 = .ok (.iload_n 1, 1) := by decide +kernel
theorem dX1_stands_10 : decode cX1_stands 10 = .ok (.aaload, 1) := by decide +kernel
theorem dX1_stands_11 : decode cX1_stands 11 = .ok (.invokevirtual 117, 3) := by decide +kernel
theorem dX1_stands_14 : decode cX1_stands 14 = .ok (.ireturn, 1) := by decide +kernel
set_option maxRecDepth 20000 in
theorem ggX1_foresee_X1_checkMinutes : GoodIn wsX1_foresee wsX1_checkMinutes := goodIn_ca (goodIn_r _ [9, 10, 11, 12, 13, 8, 14] (by decide +kernel) (by decide +kernel)) (goodIn_sub (fun _ h => List.mem_cons_of_mem _ (List.mem_append_right _ h)) (by decide +kernel))
set_option maxRecDepth 20000 in
theorem gX1_foresee_X1_checkMinutes : GoodIn wsX1_foresee (va_wsS RX1 100 yX1_checkMinutes wsX1_checkMinutes) := goodIn_app (goodIn_of _ (by decide +kernel)) ggX1_foresee_X1_checkMinutes
set_option maxRecDepth 20000 in
theorem ggX1_foresee_X1_isWithin : GoodIn wsX1_foresee wsX1_isWithin := goodIn_r _ [14] (by decide +kernel) (by decide +kernel)
set_option maxRecDepth 20000 in
theorem gX1_foresee_X1_isWithin : GoodIn wsX1_foresee (va_wsS RX1 43 yX1_isWithin wsX1_isWithin) := goodIn_app (goodIn_of _ (by decide +kernel)) ggX1_foresee_X1_isWithin
set_option maxRecDepth 20000 in
theorem ggX1_foresee_X1_copyClocks : GoodIn wsX1_foresee wsX1_copyClocks := goodIn_r _ [18, 19, 3, 5, 20, 21, 22, 23, 24, 25, 26, 27, 28, 29, 30, 31, 32, 33, 34, 35, 36, 37, 100, 101, 102, 103, 104, 105, 106, 107, 108, 109, 110, 111, 112, 113, 114, 115, 116, 117] (by decide +kernel) (by decide +kernel)
set_option maxRecDepth 20000 in
theorem gX1_foresee_X1_copyClocks : GoodIn wsX1_foresee (wsV RX1 120 RX1 yX1_copyClocks wsX1_copyClocks) := goodIn_app (goodIn_of _ (by decide +kernel)) ggX1_foresee_X1_copyClocks
set_option maxRecDepth 20000 in
theorem ggX1_foresee_X1_runRow : GoodIn wsX1_foresee wsX1_runRow := goodIn_r _ [41, 19, 42, 21, 43, 44, 37, 30, 45, 46, 47, 48, 32, 31, 49, 50, 51, 52, 24, 25, 53, 54, 55, 56, 26, 28, 57, 58, 59, 60, 33, 34, 61, 62, 63, 64, 65, 66, 67, 29, 68, 69, 70, 71, 35, 36, 72, 73, 74, 75, 27, 100, 101, 102, 103, 104, 105, 106, 107, 108, 109, 110, 111, 112, 113, 114, 115, 116, 117] (by decide +kernel) (by decide +kernel)
set_option maxRecDepth 20000 in
theorem gX1_foresee_X1_runRow : GoodIn wsX1_foresee (wsV RX1 103 RX1 yX1_runRow wsX1_runRow) := goodIn_app (goodIn_of _ (by decide +kernel)) ggX1_foresee_X1_runRow
set_option maxRecDepth 20000 in
theorem ggX1_foresee_X1_sumOf : GoodIn wsX1_foresee wsX1_sumOf := goodIn_r _ [79, 19, 80, 21, 81, 82, 31, 32, 27, 28, 29, 30, 35, 36, 37, 49, 50, 51, 52, 24, 25, 53, 54, 55, 56, 26, 57, 58, 59, 60, 33, 34, 100, 101, 102, 103, 104, 105, 106, 107, 108, 109, 110, 111, 112, 113, 114, 115, 116, 117] (by decide +kernel) (by decide +kernel)
set_option maxRecDepth 20000 in
theorem gX1_foresee_X1_sumOf : GoodIn wsX1_foresee (wsV RX1 125 RX1 yX1_sumOf wsX1_sumOf) := goodIn_app (goodIn_of _ (by decide +kernel)) ggX1_foresee_X1_sumOf
set_option maxRecDepth 20000 in
theorem ggX1_foresee_X1_offOfAll : GoodIn wsX1_foresee wsX1_offOfAll := goodIn_r _ [86, 19, 87, 88, 70, 89, 90, 91, 8, 92, 93, 94, 95, 96, 97, 98, 99, 100, 101, 102, 103, 104, 105, 106, 107, 108, 109, 110, 111, 112, 113, 114, 115, 116, 117] (by decide +kernel) (by decide +kernel)
set_option maxRecDepth 20000 in
theorem gX1_foresee_X1_offOfAll : GoodIn wsX1_foresee (wsV RX1 128 RX1 yX1_offOfAll wsX1_offOfAll) := goodIn_app (goodIn_of _ (by decide +kernel)) ggX1_foresee_X1_offOfAll
theorem dX1_foresee_0 : decode cX1_foresee 0 = .ok (.iload_n 1, 1) := by decide +kernel
theorem dX1_foresee_1 : decode cX1_foresee 1 = .ok (.invokestatic 100, 3) := by decide +kernel
theorem dX1_foresee_4 : decode cX1_foresee 4 = .ok (.iload_n 2, 1) := by decide +kernel
theorem dX1_foresee_5 : decode cX1_foresee 5 = .ok (.iconst 0, 1) := by decide +kernel
theorem dX1_foresee_6 : decode cX1_foresee 6 = .ok (.iconst 3, 1) := by decide +kernel
theorem dX1_foresee_7 : decode cX1_foresee 7 = .ok (.invokestatic 43, 3) := by decide +kernel
theorem dX1_foresee_10 : decode cX1_foresee 10 = .ok (.ifCond .ne 13, 3) := by decide +kernel
theorem dX1_foresee_13 : decode cX1_foresee 13 = .ok (.new 86, 3) := by decide +kernel
theorem dX1_foresee_16 : decode cX1_foresee 16 = .ok (.dup, 1) := by decide +kernel
theorem dX1_foresee_17 : decode cX1_foresee 17 = .ok (.ldc 123, 2) := by decide +kernel
theorem dX1_foresee_19 : decode cX1_foresee 19 = .ok (.invokespecial 90, 3) := by decide +kernel
theorem dX1_foresee_22 : decode cX1_foresee 22 = .ok (.athrow, 1) := by decide +kernel
theorem dX1_foresee_23 : decode cX1_foresee 23 = .ok (.aload_n 0, 1) := by decide +kernel
theorem dX1_foresee_24 : decode cX1_foresee 24 = .ok (.invokevirtual 120, 3) := by decide +kernel
theorem dX1_foresee_27 : decode cX1_foresee 27 = .ok (.iconst 0, 1) := by decide +kernel
theorem dX1_foresee_28 : decode cX1_foresee 28 = .ok (.istore_n 3, 1) := by decide +kernel
theorem dX1_foresee_29 : decode cX1_foresee 29 = .ok (.iconst 0, 1) := by decide +kernel
theorem dX1_foresee_30 : decode cX1_foresee 30 = .ok (.istore 4, 2) := by decide +kernel
theorem dX1_foresee_32 : decode cX1_foresee 32 = .ok (.iload 4, 2) := by decide +kernel
theorem dX1_foresee_34 : decode cX1_foresee 34 = .ok (.iload_n 1, 1) := by decide +kernel
theorem dX1_foresee_35 : decode cX1_foresee 35 = .ok (.if_icmp .ge 27, 3) := by decide +kernel
theorem dX1_foresee_38 : decode cX1_foresee 38 = .ok (.iload_n 3, 1) := by decide +kernel
theorem dX1_foresee_39 : decode cX1_foresee 39 = .ok (.aload_n 0, 1) := by decide +kernel
theorem dX1_foresee_40 : decode cX1_foresee 40 = .ok (.aload_n 0, 1) := by decide +kernel
theorem dX1_foresee_41 : decode cX1_foresee 41 = .ok (.getfield 15, 3) := by decide +kernel
theorem dX1_foresee_44 : decode cX1_foresee 44 = .ok (.aload_n 0, 1) := by decide +kernel
theorem dX1_foresee_45 : decode cX1_foresee 45 = .ok (.getfield 23, 3) := by decide +kernel
theorem dX1_foresee_48 : decode cX1_foresee 48 = .ok (.iload 4, 2) := by decide +kernel
theorem dX1_foresee_50 : decode cX1_foresee 50 = .ok (.iadd, 1) := by decide +kernel
theorem dX1_foresee_51 : decode cX1_foresee 51 = .ok (.invokevirtual 103, 3) := by decide +kernel
theorem dX1_foresee_54 : decode cX1_foresee 54 = .ok (.iadd, 1) := by decide +kernel
theorem dX1_foresee_55 : decode cX1_foresee 55 = .ok (.istore_n 3, 1) := by decide +kernel
theorem dX1_foresee_56 : decode cX1_foresee 56 = .ok (.iinc 4 1, 3) := by decide +kernel
theorem dX1_foresee_59 : decode cX1_foresee 59 = .ok (.goto (-27), 3) := by decide +kernel
theorem dX1_foresee_62 : decode cX1_foresee 62 = .ok (.iload_n 2, 1) := by decide +kernel
theorem dX1_foresee_63 : decode cX1_foresee 63 = .ok (.tableswitch 59 0 2 #[25, 27, 49], 25) := by decide +kernel
theorem dX1_foresee_88 : decode cX1_foresee 88 = .ok (.iload_n 3, 1) := by decide +kernel
theorem dX1_foresee_89 : decode cX1_foresee 89 = .ok (.ireturn, 1) := by decide +kernel
theorem dX1_foresee_90 : decode cX1_foresee 90 = .ok (.aload_n 0, 1) := by decide +kernel
theorem dX1_foresee_91 : decode cX1_foresee 91 = .ok (.aload_n 0, 1) := by decide +kernel
theorem dX1_foresee_92 : decode cX1_foresee 92 = .ok (.getfield 15, 3) := by decide +kernel
theorem dX1_foresee_95 : decode cX1_foresee 95 = .ok (.bipush 8, 2) := by decide +kernel
theorem dX1_foresee_97 : decode cX1_foresee 97 = .ok (.invokevirtual 125, 3) := by decide +kernel
theorem dX1_foresee_100 : decode cX1_foresee 100 = .ok (.aload_n 0, 1) := by decide +kernel
theorem dX1_foresee_101 : decode cX1_foresee 101 = .ok (.aload_n 0, 1) := by decide +kernel
theorem dX1_foresee_102 : decode cX1_foresee 102 = .ok (.getfield 11, 3) := by decide +kernel
theorem dX1_foresee_105 : decode cX1_foresee 105 = .ok (.bipush 8, 2) := by decide +kernel
theorem dX1_foresee_107 : decode cX1_foresee 107 = .ok (.invokevirtual 125, 3) := by decide +kernel
theorem dX1_foresee_110 : decode cX1_foresee 110 = .ok (.isub, 1) := by decide +kernel
theorem dX1_foresee_111 : decode cX1_foresee 111 = .ok (.ireturn, 1) := by decide +kernel
theorem dX1_foresee_112 : decode cX1_foresee 112 = .ok (.aload_n 0, 1) := by decide +kernel
theorem dX1_foresee_113 : decode cX1_foresee 113 = .ok (.aload_n 0, 1) := by decide +kernel
theorem dX1_foresee_114 : decode cX1_foresee 114 = .ok (.getfield 15, 3) := by decide +kernel
theorem dX1_foresee_117 : decode cX1_foresee 117 = .ok (.iconst 5, 1) := by decide +kernel
theorem dX1_foresee_118 : decode cX1_foresee 118 = .ok (.invokevirtual 125, 3) := by decide +kernel
theorem dX1_foresee_121 : decode cX1_foresee 121 = .ok (.ireturn, 1) := by decide +kernel
theorem dX1_foresee_122 : decode cX1_foresee 122 = .ok (.aload_n 0, 1) := by decide +kernel
theorem dX1_foresee_123 : decode cX1_foresee 123 = .ok (.aload_n 0, 1) := by decide +kernel
theorem dX1_foresee_124 : decode cX1_foresee 124 = .ok (.getfield 15, 3) := by decide +kernel
theorem dX1_foresee_127 : decode cX1_foresee 127 = .ok (.aload_n 0, 1) := by decide +kernel
theorem dX1_foresee_128 : decode cX1_foresee 128 = .ok (.getfield 23, 3) := by decide +kernel
theorem dX1_foresee_131 : decode cX1_foresee 131 = .ok (.iload_n 1, 1) := by decide +kernel
theorem dX1_foresee_132 : decode cX1_foresee 132 = .ok (.iadd, 1) := by decide +kernel
theorem dX1_foresee_133 : decode cX1_foresee 133 = .ok (.invokevirtual 128, 3) := by decide +kernel
theorem dX1_foresee_136 : decode cX1_foresee 136 = .ok (.ireturn, 1) := by decide +kernel
set_option maxRecDepth 20000 in
theorem ggX1_mean_X0_advance : GoodIn wsX1_mean wsX0_advance := goodIn_r _ [6, 7, 8, 9, 10, 11, 4, 12, 13, 14, 19, 20, 21, 22, 23, 24, 25, 26, 27, 28, 29, 30, 31, 32] (by decide +kernel) (by decide +kernel)
set_option maxRecDepth 20000 in
theorem gX1_mean_X0_advance_n58 : GoodIn wsX1_mean (wsX0_advance) := ggX1_mean_X0_advance
theorem dX1_mean_0 : decode cX1_mean 0 = .ok (.iconst 0, 1) := by decide +kernel
theorem dX1_mean_1 : decode cX1_mean 1 = .ok (.istore_n 1, 1) := by decide +kernel
theorem dX1_mean_2 : decode cX1_mean 2 = .ok (.iconst 0, 1) := by decide +kernel
theorem dX1_mean_3 : decode cX1_mean 3 = .ok (.istore_n 2, 1) := by decide +kernel
theorem dX1_mean_4 : decode cX1_mean 4 = .ok (.iconst 0, 1) := by decide +kernel
theorem dX1_mean_5 : decode cX1_mean 5 = .ok (.istore_n 3, 1) := by decide +kernel
theorem dX1_mean_6 : decode cX1_mean 6 = .ok (.iload_n 3, 1) := by decide +kernel
theorem dX1_mean_7 : decode cX1_mean 7 = .ok (.aload_n 0, 1) := by decide +kernel
theorem dX1_mean_8 : decode cX1_mean 8 = .ok (.getfield 19, 3) := by decide +kernel
theorem dX1_mean_11 : decode cX1_mean 11 = .ok (.if_icmp .ge 36, 3) := by decide +kernel
theorem dX1_mean_14 : decode cX1_mean 14 = .ok (.aload_n 0, 1) := by decide +kernel
theorem dX1_mean_15 : decode cX1_mean 15 = .ok (.getfield 11, 3) := by decide +kernel
theorem dX1_mean_18 : decode cX1_mean 18 = .ok (.iload_n 3, 1) := by decide +kernel
theorem dX1_mean_19 : decode cX1_mean 19 = .ok (.aaload, 1) := by decide +kernel
theorem dX1_mean_20 : decode cX1_mean 20 = .ok (.getfield 134, 3) := by decide +kernel
theorem dX1_mean_23 : decode cX1_mean 23 = .ok (.ifCond .eq 18, 3) := by decide +kernel
theorem dX1_mean_26 : decode cX1_mean 26 = .ok (.iinc 1 1, 3) := by decide +kernel
theorem dX1_mean_29 : decode cX1_mean 29 = .ok (.iload_n 2, 1) := by decide +kernel
theorem dX1_mean_30 : decode cX1_mean 30 = .ok (.aload_n 0, 1) := by decide +kernel
theorem dX1_mean_31 : decode cX1_mean 31 = .ok (.getfield 11, 3) := by decide +kernel
theorem dX1_mean_34 : decode cX1_mean 34 = .ok (.iload_n 3, 1) := by decide +kernel
theorem dX1_mean_35 : decode cX1_mean 35 = .ok (.aaload, 1) := by decide +kernel
theorem dX1_mean_36 : decode cX1_mean 36 = .ok (.invokevirtual 58, 3) := by decide +kernel
theorem dX1_mean_39 : decode cX1_mean 39 = .ok (.iadd, 1) := by decide +kernel
theorem dX1_mean_40 : decode cX1_mean 40 = .ok (.istore_n 2, 1) := by decide +kernel
theorem dX1_mean_41 : decode cX1_mean 41 = .ok (.iinc 3 1, 3) := by decide +kernel
theorem dX1_mean_44 : decode cX1_mean 44 = .ok (.goto (-38), 3) := by decide +kernel
theorem dX1_mean_47 : decode cX1_mean 47 = .ok (.iload_n 1, 1) := by decide +kernel
theorem dX1_mean_48 : decode cX1_mean 48 = .ok (.ifCond .ne 5, 3) := by decide +kernel
theorem dX1_mean_51 : decode cX1_mean 51 = .ok (.dconst 0, 1) := by decide +kernel
theorem dX1_mean_52 : decode cX1_mean 52 = .ok (.dreturn, 1) := by decide +kernel
theorem dX1_mean_53 : decode cX1_mean 53 = .ok (.iload_n 2, 1) := by decide +kernel
theorem dX1_mean_54 : decode cX1_mean 54 = .ok (.i2d, 1) := by decide +kernel
theorem dX1_mean_55 : decode cX1_mean 55 = .ok (.iload_n 1, 1) := by decide +kernel
theorem dX1_mean_56 : decode cX1_mean 56 = .ok (.i2d, 1) := by decide +kernel
theorem dX1_mean_57 : decode cX1_mean 57 = .ok (.ddiv, 1) := by decide +kernel
theorem dX1_mean_58 : decode cX1_mean 58 = .ok (.dreturn, 1) := by decide +kernel
theorem dX1_checkClock_0 : decode cX1_checkClock 0 = .ok (.iload_n 1, 1) := by decide +kernel
theorem dX1_checkClock_1 : decode cX1_checkClock 1 = .ok (.ifCond .lt 11, 3) := by decide +kernel
theorem dX1_checkClock_4 : decode cX1_checkClock 4 = .ok (.iload_n 1, 1) := by decide +kernel
theorem dX1_checkClock_5 : decode cX1_checkClock 5 = .ok (.aload_n 0, 1) := by decide +kernel
theorem dX1_checkClock_6 : decode cX1_checkClock 6 = .ok (.getfield 19, 3) := by decide +kernel
theorem dX1_checkClock_9 : decode cX1_checkClock 9 = .ok (.if_icmp .lt 13, 3) := by decide +kernel
theorem dX1_checkClock_12 : decode cX1_checkClock 12 = .ok (.new 86, 3) := by decide +kernel
theorem dX1_checkClock_15 : decode cX1_checkClock 15 = .ok (.dup, 1) := by decide +kernel
theorem dX1_checkClock_16 : decode cX1_checkClock 16 = .ok (.ldc 146, 2) := by decide +kernel
theorem dX1_checkClock_18 : decode cX1_checkClock 18 = .ok (.invokespecial 90, 3) := by decide +kernel
theorem dX1_checkClock_21 : decode cX1_checkClock 21 = .ok (.athrow, 1) := by decide +kernel
theorem dX1_checkClock_22 : decode cX1_checkClock 22 = .ok (.return_, 1) := by decide +kernel
set_option maxRecDepth 20000 in
theorem ggX1_checkTime_X1_isWithin : GoodIn wsX1_checkTime wsX1_isWithin := goodIn_r _ [6] (by decide +kernel) (by decide +kernel)
set_option maxRecDepth 20000 in
theorem gX1_checkTime_X1_isWithin : GoodIn wsX1_checkTime (va_wsS RX1 43 yX1_isWithin wsX1_isWithin) := goodIn_app (goodIn_of _ (by decide +kernel)) ggX1_checkTime_X1_isWithin
theorem dX1_checkTime_0 : decode cX1_checkTime 0 = .ok (.iload_n 0, 1) := by decide +kernel
theorem dX1_checkTime_1 : decode cX1_checkTime 1 = .ok (.iconst 0, 1) := by decide +kernel
theorem dX1_checkTime_2 : decode cX1_checkTime 2 = .ok (.sipush 719, 3) := by decide +kernel
theorem dX1_checkTime_5 : decode cX1_checkTime 5 = .ok (.invokestatic 43, 3) := by decide +kernel
theorem dX1_checkTime_8 : decode cX1_checkTime 8 = .ok (.ifCond .ne 13, 3) := by decide +kernel
theorem dX1_checkTime_11 : decode cX1_checkTime 11 = .ok (.new 47, 3) := by decide +kernel
theorem dX1_checkTime_14 : decode cX1_checkTime 14 = .ok (.dup, 1) := by decide +kernel
theorem dX1_checkTime_15 : decode cX1_checkTime 15 = .ok (.ldc 148, 2) := by decide +kernel
theorem dX1_checkTime_17 : decode cX1_checkTime 17 = .ok (.invokespecial 51, 3) := by decide +kernel
theorem dX1_checkTime_20 : decode cX1_checkTime 20 = .ok (.athrow, 1) := by decide +kernel
theorem dX1_checkTime_21 : decode cX1_checkTime 21 = .ok (.return_, 1) := by decide +kernel
set_option maxRecDepth 20000 in
theorem ggX1_checkMinutes_X1_isWithin : GoodIn wsX1_checkMinutes wsX1_isWithin := goodIn_r _ [6] (by decide +kernel) (by decide +kernel)
set_option maxRecDepth 20000 in
theorem gX1_checkMinutes_X1_isWithin : GoodIn wsX1_checkMinutes (va_wsS RX1 43 yX1_isWithin wsX1_isWithin) := goodIn_app (goodIn_of _ (by decide +kernel)) ggX1_checkMinutes_X1_isWithin
theorem dX1_checkMinutes_0 : decode cX1_checkMinutes 0 = .ok (.iload_n 0, 1) := by decide +kernel
theorem dX1_checkMinutes_1 : decode cX1_checkMinutes 1 = .ok (.iconst 1, 1) := by decide +kernel
theorem dX1_checkMinutes_2 : decode cX1_checkMinutes 2 = .ok (.sipush 720, 3) := by decide +kernel
theorem dX1_checkMinutes_5 : decode cX1_checkMinutes 5 = .ok (.invokestatic 43, 3) := by decide +kernel
theorem dX1_checkMinutes_8 : decode cX1_checkMinutes 8 = .ok (.ifCond .ne 13, 3) := by decide +kernel
theorem dX1_checkMinutes_11 : decode cX1_checkMinutes 11 = .ok (.new 47, 3) := by decide +kernel
theorem dX1_checkMinutes_14 : decode cX1_checkMinutes 14 = .ok (.dup, 1) := by decide +kernel
theorem dX1_checkMinutes_15 : decode cX1_checkMinutes 15 = .ok (.ldc 150, 2) := by decide +kernel
theorem dX1_checkMinutes_17 : decode cX1_checkMinutes 17 = .ok (.invokespecial 51, 3) := by decide +kernel
theorem dX1_checkMinutes_20 : decode cX1_checkMinutes 20 = .ok (.athrow, 1) := by decide +kernel
theorem dX1_checkMinutes_21 : decode cX1_checkMinutes 21 = .ok (.return_, 1) := by decide +kernel
theorem dX1_isWithin_0 : decode cX1_isWithin 0 = .ok (.iload_n 0, 1) := by decide +kernel
theorem dX1_isWithin_1 : decode cX1_isWithin 1 = .ok (.iload_n 1, 1) := by decide +kernel
theorem dX1_isWithin_2 : decode cX1_isWithin 2 = .ok (.if_icmp .lt 12, 3) := by decide +kernel
theorem dX1_isWithin_5 : decode cX1_isWithin 5 = .ok (.iload_n 0, 1) := by decide +kernel
theorem dX1_isWithin_6 : decode cX1_isWithin 6 = .ok (.iload_n 2, 1) := by decide +kernel
theorem dX1_isWithin_7 : decode cX1_isWithin 7 = .ok (.if_icmp .gt 7, 3) := by decide +kernel
theorem dX1_isWithin_10 : decode cX1_isWithin 10 = .ok (.iconst 1, 1) := by decide +kernel
theorem dX1_isWithin_11 : decode cX1_isWithin 11 = .ok (.goto 4, 3) := by decide +kernel
theorem dX1_isWithin_14 : decode cX1_isWithin 14 = .ok (.iconst 0, 1) := by decide +kernel
theorem dX1_isWithin_15 : decode cX1_isWithin 15 = .ok (.ireturn, 1) := by decide +kernel
set_option maxRecDepth 20000 in
theorem ggX1_trueTime_J9_floorMod_7cf53 : GoodIn wsX1_trueTime wsJ9_floorMod_7cf53 := goodIn_r _ [4] (by decide +kernel) (by decide +kernel)
set_option maxRecDepth 20000 in
theorem gX1_trueTime_J9_floorMod_7cf53 : GoodIn wsX1_trueTime (va_wsS RX1 152 yJ9_floorMod_7cf53 wsJ9_floorMod_7cf53) := goodIn_app (goodIn_of _ (by decide +kernel)) ggX1_trueTime_J9_floorMod_7cf53
theorem dX1_trueTime_0 : decode cX1_trueTime 0 = .ok (.iload_n 0, 1) := by decide +kernel
theorem dX1_trueTime_1 : decode cX1_trueTime 1 = .ok (.sipush 720, 3) := by decide +kernel
theorem dX1_trueTime_4 : decode cX1_trueTime 4 = .ok (.invokestatic 152, 3) := by decide +kernel
theorem dX1_trueTime_7 : decode cX1_trueTime 7 = .ok (.ireturn, 1) := by decide +kernel
set_option maxRecDepth 20000 in
theorem ggX1_offOf_X1_trueTime : GoodIn wsX1_offOf wsX1_trueTime := goodIn_r _ [4, 5, 6, 7, 8] (by decide +kernel) (by decide +kernel)
set_option maxRecDepth 20000 in
theorem gX1_offOf_X1_trueTime : GoodIn wsX1_offOf (va_wsS RX1 160 yX1_trueTime wsX1_trueTime) := goodIn_app (goodIn_of _ (by decide +kernel)) ggX1_offOf_X1_trueTime
set_option maxRecDepth 20000 in
theorem ggX1_offOf_J9_floorMod_7cf53 : GoodIn wsX1_offOf wsJ9_floorMod_7cf53 := goodIn_r _ [8] (by decide +kernel) (by decide +kernel)
set_option maxRecDepth 20000 in
theorem gX1_offOf_J9_floorMod_7cf53 : GoodIn wsX1_offOf (va_wsS RX1 152 yJ9_floorMod_7cf53 wsJ9_floorMod_7cf53) := goodIn_app (goodIn_of _ (by decide +kernel)) ggX1_offOf_J9_floorMod_7cf53
theorem dX1_offOf_0 : decode cX1_offOf 0 = .ok (.aload_n 0, 1) := by decide +kernel
theorem dX1_offOf_1 : decode cX1_offOf 1 = .ok (.getfield 157, 3) := by decide +kernel
theorem dX1_offOf_4 : decode cX1_offOf 4 = .ok (.iload_n 1, 1) := by decide +kernel
theorem dX1_offOf_5 : decode cX1_offOf 5 = .ok (.invokestatic 160, 3) := by decide +kernel
theorem dX1_offOf_8 : decode cX1_offOf 8 = .ok (.isub, 1) := by decide +kernel
theorem dX1_offOf_9 : decode cX1_offOf 9 = .ok (.istore_n 2, 1) := by decide +kernel
theorem dX1_offOf_10 : decode cX1_offOf 10 = .ok (.iload_n 2, 1) := by decide +kernel
theorem dX1_offOf_11 : decode cX1_offOf 11 = .ok (.sipush 360, 3) := by decide +kernel
theorem dX1_offOf_14 : decode cX1_offOf 14 = .ok (.iadd, 1) := by decide +kernel
theorem dX1_offOf_15 : decode cX1_offOf 15 = .ok (.sipush 720, 3) := by decide +kernel
theorem dX1_offOf_18 : decode cX1_offOf 18 = .ok (.invokestatic 152, 3) := by decide +kernel
theorem dX1_offOf_21 : decode cX1_offOf 21 = .ok (.sipush 360, 3) := by decide +kernel
theorem dX1_offOf_24 : decode cX1_offOf 24 = .ok (.isub, 1) := by decide +kernel
theorem dX1_offOf_25 : decode cX1_offOf 25 = .ok (.ireturn, 1) := by decide +kernel
set_option maxRecDepth 20000 in
theorem ggX1_runRow_X0_runMinute : GoodIn wsX1_runRow wsX0_runMinute := goodIn_r _ [5, 6, 7, 8, 9, 10, 3, 11, 12, 13, 14, 15, 16, 17, 18, 19, 20, 21, 22, 23, 24, 25, 26, 27, 28, 29, 30, 31, 32, 33, 34, 35, 36, 37, 38, 39, 40, 41, 42, 43, 44, 45, 46, 47, 48, 49, 50, 55, 56, 57, 58, 59, 60, 61, 62, 63, 64, 65, 66, 67, 68] (by decide +kernel) (by decide +kernel)
set_option maxRecDepth 20000 in
theorem gX1_runRow_X0_runMinute_n111 : GoodIn wsX1_runRow (wsX0_runMinute) := ggX1_runRow_X0_runMinute
theorem dX1_runRow_0 : decode cX1_runRow 0 = .ok (.iconst 0, 1) := by decide +kernel
theorem dX1_runRow_1 : decode cX1_runRow 1 = .ok (.istore_n 3, 1) := by decide +kernel
theorem dX1_runRow_2 : decode cX1_runRow 2 = .ok (.iconst 0, 1) := by decide +kernel
theorem dX1_runRow_3 : decode cX1_runRow 3 = .ok (.istore 4, 2) := by decide +kernel
theorem dX1_runRow_5 : decode cX1_runRow 5 = .ok (.iload 4, 2) := by decide +kernel
theorem dX1_runRow_7 : decode cX1_runRow 7 = .ok (.aload_n 0, 1) := by decide +kernel
theorem dX1_runRow_8 : decode cX1_runRow 8 = .ok (.getfield 19, 3) := by decide +kernel
theorem dX1_runRow_11 : decode cX1_runRow 11 = .ok (.if_icmp .ge 27, 3) := by decide +kernel
theorem dX1_runRow_14 : decode cX1_runRow 14 = .ok (.aload_n 1, 1) := by decide +kernel
theorem dX1_runRow_15 : decode cX1_runRow 15 = .ok (.iload 4, 2) := by decide +kernel
theorem dX1_runRow_17 : decode cX1_runRow 17 = .ok (.aaload, 1) := by decide +kernel
theorem dX1_runRow_18 : decode cX1_runRow 18 = .ok (.iload_n 2, 1) := by decide +kernel
theorem dX1_runRow_19 : decode cX1_runRow 19 = .ok (.invokevirtual 111, 3) := by decide +kernel
theorem dX1_runRow_22 : decode cX1_runRow 22 = .ok (.iload_n 3, 1) := by decide +kernel
theorem dX1_runRow_23 : decode cX1_runRow 23 = .ok (.aload_n 1, 1) := by decide +kernel
theorem dX1_runRow_24 : decode cX1_runRow 24 = .ok (.iload 4, 2) := by decide +kernel
theorem dX1_runRow_26 : decode cX1_runRow 26 = .ok (.aaload, 1) := by decide +kernel
theorem dX1_runRow_27 : decode cX1_runRow 27 = .ok (.getfield 114, 3) := by decide +kernel
theorem dX1_runRow_30 : decode cX1_runRow 30 = .ok (.iadd, 1) := by decide +kernel
theorem dX1_runRow_31 : decode cX1_runRow 31 = .ok (.istore_n 3, 1) := by decide +kernel
theorem dX1_runRow_32 : decode cX1_runRow 32 = .ok (.iinc 4 1, 3) := by decide +kernel
theorem dX1_runRow_35 : decode cX1_runRow 35 = .ok (.goto (-30), 3) := by decide +kernel
theorem dX1_runRow_38 : decode cX1_runRow 38 = .ok (.iload_n 3, 1) := by decide +kernel
theorem dX1_runRow_39 : decode cX1_runRow 39 = .ok (.ireturn, 1) := by decide +kernel
set_option maxRecDepth 20000 in
theorem ggX1_copyClocks_X0_copyFrom : GoodIn wsX1_copyClocks wsX0_copyFrom := goodIn_r _ [7, 8, 9, 10, 11, 12, 13, 14, 15, 16, 17, 18, 19, 20, 21, 26, 27, 28, 29, 30, 31, 32, 33, 34, 35, 36, 37, 38, 39] (by decide +kernel) (by decide +kernel)
set_option maxRecDepth 20000 in
theorem gX1_copyClocks_X0_copyFrom_n107 : GoodIn wsX1_copyClocks (wsX0_copyFrom) := ggX1_copyClocks_X0_copyFrom
theorem dX1_copyClocks_0 : decode cX1_copyClocks 0 = .ok (.iconst 0, 1) := by decide +kernel
theorem dX1_copyClocks_1 : decode cX1_copyClocks 1 = .ok (.istore_n 1, 1) := by decide +kernel
theorem dX1_copyClocks_2 : decode cX1_copyClocks 2 = .ok (.iload_n 1, 1) := by decide +kernel
theorem dX1_copyClocks_3 : decode cX1_copyClocks 3 = .ok (.aload_n 0, 1) := by decide +kernel
theorem dX1_copyClocks_4 : decode cX1_copyClocks 4 = .ok (.getfield 19, 3) := by decide +kernel
theorem dX1_copyClocks_7 : decode cX1_copyClocks 7 = .ok (.if_icmp .ge 24, 3) := by decide +kernel
theorem dX1_copyClocks_10 : decode cX1_copyClocks 10 = .ok (.aload_n 0, 1) := by decide +kernel
theorem dX1_copyClocks_11 : decode cX1_copyClocks 11 = .ok (.getfield 15, 3) := by decide +kernel
theorem dX1_copyClocks_14 : decode cX1_copyClocks 14 = .ok (.iload_n 1, 1) := by decide +kernel
theorem dX1_copyClocks_15 : decode cX1_copyClocks 15 = .ok (.aaload, 1) := by decide +kernel
theorem dX1_copyClocks_16 : decode cX1_copyClocks 16 = .ok (.aload_n 0, 1) := by decide +kernel
theorem dX1_copyClocks_17 : decode cX1_copyClocks 17 = .ok (.getfield 11, 3) := by decide +kernel
theorem dX1_copyClocks_20 : decode cX1_copyClocks 20 = .ok (.iload_n 1, 1) := by decide +kernel
theorem dX1_copyClocks_21 : decode cX1_copyClocks 21 = .ok (.aaload, 1) := by decide +kernel
theorem dX1_copyClocks_22 : decode cX1_copyClocks 22 = .ok (.invokevirtual 107, 3) := by decide +kernel
theorem dX1_copyClocks_25 : decode cX1_copyClocks 25 = .ok (.iinc 1 1, 3) := by decide +kernel
theorem dX1_copyClocks_28 : decode cX1_copyClocks 28 = .ok (.goto (-26), 3) := by decide +kernel
theorem dX1_copyClocks_31 : decode cX1_copyClocks 31 = .ok (.return_, 1) := by decide +kernel
set_option maxRecDepth 20000 in
theorem ggX1_tally_X1_trueTime : GoodIn wsX1_tally wsX1_trueTime := goodIn_r _ [7, 8, 9, 10, 11] (by decide +kernel) (by decide +kernel)
set_option maxRecDepth 20000 in
theorem gX1_tally_X1_trueTime : GoodIn wsX1_tally (va_wsS RX1 160 yX1_trueTime wsX1_trueTime) := goodIn_app (goodIn_of _ (by decide +kernel)) ggX1_tally_X1_trueTime
set_option maxRecDepth 20000 in
theorem ggX1_tally_X1_sumOf : GoodIn wsX1_tally wsX1_sumOf := goodIn_r _ [15, 2, 16, 17, 18, 19, 20, 21, 22, 23, 24, 25, 26, 27, 28, 29, 30, 31, 32, 33, 34, 35, 36, 37, 38, 39, 40, 41, 42, 43, 44, 45, 61, 62, 63, 64, 65, 66, 67, 68, 69, 70, 71, 72, 73, 74, 75, 76, 77, 78] (by decide +kernel) (by decide +kernel)
set_option maxRecDepth 20000 in
theorem gX1_tally_X1_sumOf : GoodIn wsX1_tally (wsV RX1 125 RX1 yX1_sumOf wsX1_sumOf) := goodIn_app (goodIn_of _ (by decide +kernel)) ggX1_tally_X1_sumOf
set_option maxRecDepth 20000 in
theorem ggX1_tally_X1_trueClocks : GoodIn wsX1_tally wsX1_trueClocks := goodIn_r _ [49, 2, 3, 1, 50, 51, 6, 52, 4, 5, 7, 8, 9, 10, 11, 61, 62, 63, 64, 65, 66, 67, 68, 69, 70, 71, 72, 73, 74, 75, 76, 77, 78] (by decide +kernel) (by decide +kernel)
set_option maxRecDepth 20000 in
theorem gX1_tally_X1_trueClocks : GoodIn wsX1_tally (wsV RX1 163 RX1 yX1_trueClocks wsX1_trueClocks) := goodIn_app (goodIn_of _ (by decide +kernel)) ggX1_tally_X1_trueClocks
set_option maxRecDepth 20000 in
theorem ggX1_tally_X1_offOfAll : GoodIn wsX1_tally wsX1_offOfAll := goodIn_r _ [56, 2, 57, 58, 59, 60, 50, 51, 6, 52, 4, 5, 7, 8, 9, 10, 11, 61, 62, 63, 64, 65, 66, 67, 68, 69, 70, 71, 72, 73, 74, 75, 76, 77, 78] (by decide +kernel) (by decide +kernel)
set_option maxRecDepth 20000 in
theorem gX1_tally_X1_offOfAll : GoodIn wsX1_tally (wsV RX1 128 RX1 yX1_offOfAll wsX1_offOfAll) := goodIn_app (goodIn_of _ (by decide +kernel)) ggX1_tally_X1_offOfAll
theorem dX1_tally_0 : decode cX1_tally 0 = .ok (.iload_n 1, 1) := by decide +kernel
theorem dX1_tally_1 : decode cX1_tally 1 = .ok (.tableswitch 98 0 6 #[43, 48, 56, 61, 71, 82, 93], 43) := by decide +kernel
theorem dX1_tally_44 : decode cX1_tally 44 = .ok (.aload_n 0, 1) := by decide +kernel
theorem dX1_tally_45 : decode cX1_tally 45 = .ok (.getfield 23, 3) := by decide +kernel
theorem dX1_tally_48 : decode cX1_tally 48 = .ok (.ireturn, 1) := by decide +kernel
theorem dX1_tally_49 : decode cX1_tally 49 = .ok (.aload_n 0, 1) := by decide +kernel
theorem dX1_tally_50 : decode cX1_tally 50 = .ok (.getfield 23, 3) := by decide +kernel
theorem dX1_tally_53 : decode cX1_tally 53 = .ok (.invokestatic 160, 3) := by decide +kernel
theorem dX1_tally_56 : decode cX1_tally 56 = .ok (.ireturn, 1) := by decide +kernel
theorem dX1_tally_57 : decode cX1_tally 57 = .ok (.aload_n 0, 1) := by decide +kernel
theorem dX1_tally_58 : decode cX1_tally 58 = .ok (.getfield 19, 3) := by decide +kernel
theorem dX1_tally_61 : decode cX1_tally 61 = .ok (.ireturn, 1) := by decide +kernel
theorem dX1_tally_62 : decode cX1_tally 62 = .ok (.aload_n 0, 1) := by decide +kernel
theorem dX1_tally_63 : decode cX1_tally 63 = .ok (.aload_n 0, 1) := by decide +kernel
theorem dX1_tally_64 : decode cX1_tally 64 = .ok (.getfield 11, 3) := by decide +kernel
theorem dX1_tally_67 : decode cX1_tally 67 = .ok (.iconst 5, 1) := by decide +kernel
theorem dX1_tally_68 : decode cX1_tally 68 = .ok (.invokevirtual 125, 3) := by decide +kernel
theorem dX1_tally_71 : decode cX1_tally 71 = .ok (.ireturn, 1) := by decide +kernel
theorem dX1_tally_72 : decode cX1_tally 72 = .ok (.aload_n 0, 1) := by decide +kernel
theorem dX1_tally_73 : decode cX1_tally 73 = .ok (.aload_n 0, 1) := by decide +kernel
theorem dX1_tally_74 : decode cX1_tally 74 = .ok (.getfield 11, 3) := by decide +kernel
theorem dX1_tally_77 : decode cX1_tally 77 = .ok (.bipush 7, 2) := by decide +kernel
theorem dX1_tally_79 : decode cX1_tally 79 = .ok (.invokevirtual 125, 3) := by decide +kernel
theorem dX1_tally_82 : decode cX1_tally 82 = .ok (.ireturn, 1) := by decide +kernel
theorem dX1_tally_83 : decode cX1_tally 83 = .ok (.aload_n 0, 1) := by decide +kernel
theorem dX1_tally_84 : decode cX1_tally 84 = .ok (.aload_n 0, 1) := by decide +kernel
theorem dX1_tally_85 : decode cX1_tally 85 = .ok (.getfield 11, 3) := by decide +kernel
theorem dX1_tally_88 : decode cX1_tally 88 = .ok (.bipush 9, 2) := by decide +kernel
theorem dX1_tally_90 : decode cX1_tally 90 = .ok (.invokevirtual 125, 3) := by decide +kernel
theorem dX1_tally_93 : decode cX1_tally 93 = .ok (.ireturn, 1) := by decide +kernel
theorem dX1_tally_94 : decode cX1_tally 94 = .ok (.aload_n 0, 1) := by decide +kernel
theorem dX1_tally_95 : decode cX1_tally 95 = .ok (.invokevirtual 163, 3) := by decide +kernel
theorem dX1_tally_98 : decode cX1_tally 98 = .ok (.ireturn, 1) := by decide +kernel
theorem dX1_tally_99 : decode cX1_tally 99 = .ok (.aload_n 0, 1) := by decide +kernel
theorem dX1_tally_100 : decode cX1_tally 100 = .ok (.aload_n 0, 1) := by decide +kernel
theorem dX1_tally_101 : decode cX1_tally 101 = .ok (.getfield 11, 3) := by decide +kernel
theorem dX1_tally_104 : decode cX1_tally 104 = .ok (.aload_n 0, 1) := by decide +kernel
theorem dX1_tally_105 : decode cX1_tally 105 = .ok (.getfield 23, 3) := by decide +kernel
theorem dX1_tally_108 : decode cX1_tally 108 = .ok (.invokevirtual 128, 3) := by decide +kernel
theorem dX1_tally_111 : decode cX1_tally 111 = .ok (.ireturn, 1) := by decide +kernel
set_option maxRecDepth 20000 in
theorem ggX1_sumOf_X0_reading : GoodIn wsX1_sumOf wsX0_reading := goodIn_r _ [5, 6, 7, 8, 9, 10, 11, 12, 13, 14, 15, 16, 17, 3, 18, 19, 20, 21, 22, 23, 24, 25, 26, 27, 28, 29, 30, 31, 36, 37, 38, 39, 40, 41, 42, 43, 44, 45, 46, 47, 48, 49] (by decide +kernel) (by decide +kernel)
set_option maxRecDepth 20000 in
theorem gX1_sumOf_X0_reading_n91 : GoodIn wsX1_sumOf (wsX0_reading) := ggX1_sumOf_X0_reading
theorem dX1_sumOf_0 : decode cX1_sumOf 0 = .ok (.iconst 0, 1) := by decide +kernel
theorem dX1_sumOf_1 : decode cX1_sumOf 1 = .ok (.istore_n 3, 1) := by decide +kernel
theorem dX1_sumOf_2 : decode cX1_sumOf 2 = .ok (.iconst 0, 1) := by decide +kernel
theorem dX1_sumOf_3 : decode cX1_sumOf 3 = .ok (.istore 4, 2) := by decide +kernel
theorem dX1_sumOf_5 : decode cX1_sumOf 5 = .ok (.iload 4, 2) := by decide +kernel
theorem dX1_sumOf_7 : decode cX1_sumOf 7 = .ok (.aload_n 0, 1) := by decide +kernel
theorem dX1_sumOf_8 : decode cX1_sumOf 8 = .ok (.getfield 19, 3) := by decide +kernel
theorem dX1_sumOf_11 : decode cX1_sumOf 11 = .ok (.if_icmp .ge 20, 3) := by decide +kernel
theorem dX1_sumOf_14 : decode cX1_sumOf 14 = .ok (.iload_n 3, 1) := by decide +kernel
theorem dX1_sumOf_15 : decode cX1_sumOf 15 = .ok (.aload_n 1, 1) := by decide +kernel
theorem dX1_sumOf_16 : decode cX1_sumOf 16 = .ok (.iload 4, 2) := by decide +kernel
theorem dX1_sumOf_18 : decode cX1_sumOf 18 = .ok (.aaload, 1) := by decide +kernel
theorem dX1_sumOf_19 : decode cX1_sumOf 19 = .ok (.iload_n 2, 1) := by decide +kernel
theorem dX1_sumOf_20 : decode cX1_sumOf 20 = .ok (.invokevirtual 91, 3) := by decide +kernel
theorem dX1_sumOf_23 : decode cX1_sumOf 23 = .ok (.iadd, 1) := by decide +kernel
theorem dX1_sumOf_24 : decode cX1_sumOf 24 = .ok (.istore_n 3, 1) := by decide +kernel
theorem dX1_sumOf_25 : decode cX1_sumOf 25 = .ok (.iinc 4 1, 3) := by decide +kernel
theorem dX1_sumOf_28 : decode cX1_sumOf 28 = .ok (.goto (-23), 3) := by decide +kernel
theorem dX1_sumOf_31 : decode cX1_sumOf 31 = .ok (.iload_n 3, 1) := by decide +kernel
theorem dX1_sumOf_32 : decode cX1_sumOf 32 = .ok (.ireturn, 1) := by decide +kernel
set_option maxRecDepth 20000 in
theorem ggX1_offOfAll_X1_offOf : GoodIn wsX1_offOfAll wsX1_offOf := goodIn_r _ [9, 10, 11, 8, 12, 13, 14, 15, 16, 21, 22, 23, 24, 25, 26, 27, 28, 29, 30, 31, 32, 33, 34] (by decide +kernel) (by decide +kernel)
set_option maxRecDepth 20000 in
theorem gX1_offOfAll_X1_offOf : GoodIn wsX1_offOfAll (va_wsS RX1 62 yX1_offOf wsX1_offOf) := goodIn_app (goodIn_of _ (by decide +kernel)) ggX1_offOfAll_X1_offOf
theorem dX1_offOfAll_0 : decode cX1_offOfAll 0 = .ok (.iconst 0, 1) := by decide +kernel
theorem dX1_offOfAll_1 : decode cX1_offOfAll 1 = .ok (.istore_n 3, 1) := by decide +kernel
theorem dX1_offOfAll_2 : decode cX1_offOfAll 2 = .ok (.iconst 0, 1) := by decide +kernel
theorem dX1_offOfAll_3 : decode cX1_offOfAll 3 = .ok (.istore 4, 2) := by decide +kernel
theorem dX1_offOfAll_5 : decode cX1_offOfAll 5 = .ok (.iload 4, 2) := by decide +kernel
theorem dX1_offOfAll_7 : decode cX1_offOfAll 7 = .ok (.aload_n 0, 1) := by decide +kernel
theorem dX1_offOfAll_8 : decode cX1_offOfAll 8 = .ok (.getfield 19, 3) := by decide +kernel
theorem dX1_offOfAll_11 : decode cX1_offOfAll 11 = .ok (.if_icmp .ge 23, 3) := by decide +kernel
theorem dX1_offOfAll_14 : decode cX1_offOfAll 14 = .ok (.iload_n 3, 1) := by decide +kernel
theorem dX1_offOfAll_15 : decode cX1_offOfAll 15 = .ok (.aload_n 1, 1) := by decide +kernel
theorem dX1_offOfAll_16 : decode cX1_offOfAll 16 = .ok (.iload 4, 2) := by decide +kernel
theorem dX1_offOfAll_18 : decode cX1_offOfAll 18 = .ok (.aaload, 1) := by decide +kernel
theorem dX1_offOfAll_19 : decode cX1_offOfAll 19 = .ok (.iload_n 2, 1) := by decide +kernel
theorem dX1_offOfAll_20 : decode cX1_offOfAll 20 = .ok (.invokestatic 62, 3) := by decide +kernel
theorem dX1_offOfAll_23 : decode cX1_offOfAll 23 = .ok (.invokestatic 166, 3) := by decide +kernel
theorem dX1_offOfAll_26 : decode cX1_offOfAll 26 = .ok (.iadd, 1) := by decide +kernel
theorem dX1_offOfAll_27 : decode cX1_offOfAll 27 = .ok (.istore_n 3, 1) := by decide +kernel
theorem dX1_offOfAll_28 : decode cX1_offOfAll 28 = .ok (.iinc 4 1, 3) := by decide +kernel
theorem dX1_offOfAll_31 : decode cX1_offOfAll 31 = .ok (.goto (-26), 3) := by decide +kernel
theorem dX1_offOfAll_34 : decode cX1_offOfAll 34 = .ok (.iload_n 3, 1) := by decide +kernel
theorem dX1_offOfAll_35 : decode cX1_offOfAll 35 = .ok (.ireturn, 1) := by decide +kernel
set_option maxRecDepth 20000 in
theorem ggX1_trueClocks_X1_offOf : GoodIn wsX1_trueClocks wsX1_offOf := goodIn_r _ [7, 8, 9, 6, 10, 11, 12, 13, 14, 19, 20, 21, 22, 23, 24, 25, 26, 27, 28, 29, 30, 31, 32] (by decide +kernel) (by decide +kernel)
set_option maxRecDepth 20000 in
theorem gX1_trueClocks_X1_offOf : GoodIn wsX1_trueClocks (va_wsS RX1 62 yX1_offOf wsX1_offOf) := goodIn_app (goodIn_of _ (by decide +kernel)) ggX1_trueClocks_X1_offOf
theorem dX1_trueClocks_0 : decode cX1_trueClocks 0 = .ok (.iconst 0, 1) := by decide +kernel
theorem dX1_trueClocks_1 : decode cX1_trueClocks 1 = .ok (.istore_n 1, 1) := by decide +kernel
theorem dX1_trueClocks_2 : decode cX1_trueClocks 2 = .ok (.iconst 0, 1) := by decide +kernel
theorem dX1_trueClocks_3 : decode cX1_trueClocks 3 = .ok (.istore_n 2, 1) := by decide +kernel
theorem dX1_trueClocks_4 : decode cX1_trueClocks 4 = .ok (.iload_n 2, 1) := by decide +kernel
theorem dX1_trueClocks_5 : decode cX1_trueClocks 5 = .ok (.aload_n 0, 1) := by decide +kernel
theorem dX1_trueClocks_6 : decode cX1_trueClocks 6 = .ok (.getfield 19, 3) := by decide +kernel
theorem dX1_trueClocks_9 : decode cX1_trueClocks 9 = .ok (.if_icmp .ge 28, 3) := by decide +kernel
theorem dX1_trueClocks_12 : decode cX1_trueClocks 12 = .ok (.aload_n 0, 1) := by decide +kernel
theorem dX1_trueClocks_13 : decode cX1_trueClocks 13 = .ok (.getfield 11, 3) := by decide +kernel
theorem dX1_trueClocks_16 : decode cX1_trueClocks 16 = .ok (.iload_n 2, 1) := by decide +kernel
theorem dX1_trueClocks_17 : decode cX1_trueClocks 17 = .ok (.aaload, 1) := by decide +kernel
theorem dX1_trueClocks_18 : decode cX1_trueClocks 18 = .ok (.aload_n 0, 1) := by decide +kernel
theorem dX1_trueClocks_19 : decode cX1_trueClocks 19 = .ok (.getfield 23, 3) := by decide +kernel
theorem dX1_trueClocks_22 : decode cX1_trueClocks 22 = .ok (.invokestatic 62, 3) := by decide +kernel
theorem dX1_trueClocks_25 : decode cX1_trueClocks 25 = .ok (.ifCond .ne 6, 3) := by decide +kernel
theorem dX1_trueClocks_28 : decode cX1_trueClocks 28 = .ok (.iinc 1 1, 3) := by decide +kernel
theorem dX1_trueClocks_31 : decode cX1_trueClocks 31 = .ok (.iinc 2 1, 3) := by decide +kernel
theorem dX1_trueClocks_34 : decode cX1_trueClocks 34 = .ok (.goto (-30), 3) := by decide +kernel
theorem dX1_trueClocks_37 : decode cX1_trueClocks 37 = .ok (.iload_n 1, 1) := by decide +kernel
theorem dX1_trueClocks_38 : decode cX1_trueClocks 38 = .ok (.ireturn, 1) := by decide +kernel
end
section
theorem dX2_init_0 : decode cX2_init 0 = .ok (.aload_n 0, 1) := by decide +kernel
theorem dX2_init_1 : decode cX2_init 1 = .ok (.invokespecial 1, 3) := by decide +kernel
theorem dX2_init_4 : decode cX2_init 4 = .ok (.aload_n 0, 1) := by decide +kernel
theorem dX2_init_5 : decode cX2_init 5 = .ok (.bipush 30, 2) := by decide +kernel
theorem dX2_init_7 : decode cX2_init 7 = .ok (.putfield 7, 3) := by decide +kernel
theorem dX2_init_10 : decode cX2_init 10 = .ok (.aload_n 0, 1) := by decide +kernel
theorem dX2_init_11 : decode cX2_init 11 = .ok (.bipush 30, 2) := by decide +kernel
theorem dX2_init_13 : decode cX2_init 13 = .ok (.putfield 13, 3) := by decide +kernel
theorem dX2_init_16 : decode cX2_init 16 = .ok (.aload_n 0, 1) := by decide +kernel
theorem dX2_init_17 : decode cX2_init 17 = .ok (.sipush 600, 3) := by decide +kernel
theorem dX2_init_20 : decode cX2_init 20 = .ok (.putfield 16, 3) := by decide +kernel
theorem dX2_init_23 : decode cX2_init 23 = .ok (.aload_n 0, 1) := by decide +kernel
theorem dX2_init_24 : decode cX2_init 24 = .ok (.bipush 100, 2) := by decide +kernel
theorem dX2_init_26 : decode cX2_init 26 = .ok (.putfield 19, 3) := by decide +kernel
theorem dX2_init_29 : decode cX2_init 29 = .ok (.aload_n 0, 1) := by decide +kernel
theorem dX2_init_30 : decode cX2_init 30 = .ok (.bipush 60, 2) := by decide +kernel
theorem dX2_init_32 : decode cX2_init 32 = .ok (.putfield 22, 3) := by decide +kernel
theorem dX2_init_35 : decode cX2_init 35 = .ok (.aload_n 0, 1) := by decide +kernel
theorem dX2_init_36 : decode cX2_init 36 = .ok (.iconst 1, 1) := by decide +kernel
theorem dX2_init_37 : decode cX2_init 37 = .ok (.putfield 25, 3) := by decide +kernel
theorem dX2_init_40 : decode cX2_init 40 = .ok (.aload_n 0, 1) := by decide +kernel
theorem dX2_init_41 : decode cX2_init 41 = .ok (.iconst (-1), 1) := by decide +kernel
theorem dX2_init_42 : decode cX2_init 42 = .ok (.putfield 29, 3) := by decide +kernel
theorem dX2_init_45 : decode cX2_init 45 = .ok (.return_, 1) := by decide +kernel
theorem dX2_advance_0 : decode cX2_advance 0 = .ok (.sipush 900, 3) := by decide +kernel
theorem dX2_advance_3 : decode cX2_advance 3 = .ok (.iload_n 1, 1) := by decide +kernel
theorem dX2_advance_4 : decode cX2_advance 4 = .ok (.imul, 1) := by decide +kernel
theorem dX2_advance_5 : decode cX2_advance 5 = .ok (.iload_n 2, 1) := by decide +kernel
theorem dX2_advance_6 : decode cX2_advance 6 = .ok (.idiv, 1) := by decide +kernel
theorem dX2_advance_7 : decode cX2_advance 7 = .ok (.aload_n 0, 1) := by decide +kernel
theorem dX2_advance_8 : decode cX2_advance 8 = .ok (.getfield 33, 3) := by decide +kernel
theorem dX2_advance_11 : decode cX2_advance 11 = .ok (.iadd, 1) := by decide +kernel
theorem dX2_advance_12 : decode cX2_advance 12 = .ok (.istore_n 3, 1) := by decide +kernel
theorem dX2_advance_13 : decode cX2_advance 13 = .ok (.aload_n 0, 1) := by decide +kernel
theorem dX2_advance_14 : decode cX2_advance 14 = .ok (.getfield 19, 3) := by decide +kernel
theorem dX2_advance_17 : decode cX2_advance 17 = .ok (.bipush 19, 2) := by decide +kernel
theorem dX2_advance_19 : decode cX2_advance 19 = .ok (.if_icmp .le 7, 3) := by decide +kernel
theorem dX2_advance_22 : decode cX2_advance 22 = .ok (.iload_n 3, 1) := by decide +kernel
theorem dX2_advance_23 : decode cX2_advance 23 = .ok (.goto 9, 3) := by decide +kernel
theorem dX2_advance_26 : decode cX2_advance 26 = .ok (.iload_n 3, 1) := by decide +kernel
theorem dX2_advance_27 : decode cX2_advance 27 = .ok (.iload_n 3, 1) := by decide +kernel
theorem dX2_advance_28 : decode cX2_advance 28 = .ok (.bipush 10, 2) := by decide +kernel
theorem dX2_advance_30 : decode cX2_advance 30 = .ok (.idiv, 1) := by decide +kernel
theorem dX2_advance_31 : decode cX2_advance 31 = .ok (.isub, 1) := by decide +kernel
theorem dX2_advance_32 : decode cX2_advance 32 = .ok (.ireturn, 1) := by decide +kernel
theorem dX2_isShut_0 : decode cX2_isShut 0 = .ok (.aload_n 0, 1) := by decide +kernel
theorem dX2_isShut_1 : decode cX2_isShut 1 = .ok (.getfield 29, 3) := by decide +kernel
theorem dX2_isShut_4 : decode cX2_isShut 4 = .ok (.ifCond .ge 5, 3) := by decide +kernel
theorem dX2_isShut_7 : decode cX2_isShut 7 = .ok (.iconst 0, 1) := by decide +kernel
theorem dX2_isShut_8 : decode cX2_isShut 8 = .ok (.ireturn, 1) := by decide +kernel
theorem dX2_isShut_9 : decode cX2_isShut 9 = .ok (.aload_n 0, 1) := by decide +kernel
theorem dX2_isShut_10 : decode cX2_isShut 10 = .ok (.getfield 29, 3) := by decide +kernel
theorem dX2_isShut_13 : decode cX2_isShut 13 = .ok (.aload_n 0, 1) := by decide +kernel
theorem dX2_isShut_14 : decode cX2_isShut 14 = .ok (.getfield 42, 3) := by decide +kernel
theorem dX2_isShut_17 : decode cX2_isShut 17 = .ok (.if_icmp .ne 5, 3) := by decide +kernel
theorem dX2_isShut_20 : decode cX2_isShut 20 = .ok (.iconst 1, 1) := by decide +kernel
theorem dX2_isShut_21 : decode cX2_isShut 21 = .ok (.ireturn, 1) := by decide +kernel
theorem dX2_isShut_22 : decode cX2_isShut 22 = .ok (.aload_n 0, 1) := by decide +kernel
theorem dX2_isShut_23 : decode cX2_isShut 23 = .ok (.getfield 29, 3) := by decide +kernel
theorem dX2_isShut_26 : decode cX2_isShut 26 = .ok (.aload_n 0, 1) := by decide +kernel
theorem dX2_isShut_27 : decode cX2_isShut 27 = .ok (.getfield 42, 3) := by decide +kernel
theorem dX2_isShut_30 : decode cX2_isShut 30 = .ok (.if_icmp .ge 27, 3) := by decide +kernel
theorem dX2_isShut_33 : decode cX2_isShut 33 = .ok (.iload_n 1, 1) := by decide +kernel
theorem dX2_isShut_34 : decode cX2_isShut 34 = .ok (.aload_n 0, 1) := by decide +kernel
theorem dX2_isShut_35 : decode cX2_isShut 35 = .ok (.getfield 29, 3) := by decide +kernel
theorem dX2_isShut_38 : decode cX2_isShut 38 = .ok (.if_icmp .lt 15, 3) := by decide +kernel
theorem dX2_isShut_41 : decode cX2_isShut 41 = .ok (.iload_n 1, 1) := by decide +kernel
theorem dX2_isShut_42 : decode cX2_isShut 42 = .ok (.aload_n 0, 1) := by decide +kernel
theorem dX2_isShut_43 : decode cX2_isShut 43 = .ok (.getfield 42, 3) := by decide +kernel
theorem dX2_isShut_46 : decode cX2_isShut 46 = .ok (.if_icmp .ge 7, 3) := by decide +kernel
theorem dX2_isShut_49 : decode cX2_isShut 49 = .ok (.iconst 1, 1) := by decide +kernel
theorem dX2_isShut_50 : decode cX2_isShut 50 = .ok (.goto 28, 3) := by decide +kernel
theorem dX2_isShut_53 : decode cX2_isShut 53 = .ok (.iconst 0, 1) := by decide +kernel
theorem dX2_isShut_54 : decode cX2_isShut 54 = .ok (.goto 24, 3) := by decide +kernel
theorem dX2_isShut_57 : decode cX2_isShut 57 = .ok (.iload_n 1, 1) := by decide +kernel
theorem dX2_isShut_58 : decode cX2_isShut 58 = .ok (.aload_n 0, 1) := by decide +kernel
theorem dX2_isShut_59 : decode cX2_isShut 59 = .ok (.getfield 29, 3) := by decide +kernel
theorem dX2_isShut_62 : decode cX2_isShut 62 = .ok (.if_icmp .ge 11, 3) := by decide +kernel
theorem dX2_isShut_65 : decode cX2_isShut 65 = .ok (.iload_n 1, 1) := by decide +kernel
theorem dX2_isShut_66 : decode cX2_isShut 66 = .ok (.aload_n 0, 1) := by decide +kernel
theorem dX2_isShut_67 : decode cX2_isShut 67 = .ok (.getfield 42, 3) := by decide +kernel
theorem dX2_isShut_70 : decode cX2_isShut 70 = .ok (.if_icmp .ge 7, 3) := by decide +kernel
theorem dX2_isShut_73 : decode cX2_isShut 73 = .ok (.iconst 1, 1) := by decide +kernel
theorem dX2_isShut_74 : decode cX2_isShut 74 = .ok (.goto 4, 3) := by decide +kernel
theorem dX2_isShut_77 : decode cX2_isShut 77 = .ok (.iconst 0, 1) := by decide +kernel
theorem dX2_isShut_78 : decode cX2_isShut 78 = .ok (.ireturn, 1) := by decide +kernel
set_option maxRecDepth 20000 in
theorem ggX2_pass_X2_advance : GoodIn wsX2_pass wsX2_advance := goodIn_r _ [16, 17, 11, 24, 25, 26, 27, 28, 29, 30, 31, 32, 33, 34, 35, 36, 37] (by decide +kernel) (by decide +kernel)
set_option maxRecDepth 20000 in
theorem gX2_pass_X2_advance : GoodIn wsX2_pass (wsV RX2 48 RX2 yX2_advance wsX2_advance) := goodIn_app (goodIn_of _ (by decide +kernel)) ggX2_pass_X2_advance
set_option maxRecDepth 20000 in
theorem ggX2_pass_X2_isShut : GoodIn wsX2_pass wsX2_isShut := goodIn_r _ [21, 22, 23, 24, 25, 26, 27, 28, 29, 30, 31, 32, 33, 34, 35, 36, 37] (by decide +kernel) (by decide +kernel)
set_option maxRecDepth 20000 in
theorem gX2_pass_X2_isShut : GoodIn wsX2_pass (wsV RX2 52 RX2 yX2_isShut wsX2_isShut) := goodIn_app (goodIn_of _ (by decide +kernel)) ggX2_pass_X2_isShut
theorem dX2_pass_0 : decode cX2_pass 0 = .ok (.aload_n 0, 1) := by decide +kernel
theorem dX2_pass_1 : decode cX2_pass 1 = .ok (.iconst 0, 1) := by decide +kernel
theorem dX2_pass_2 : decode cX2_pass 2 = .ok (.putfield 45, 3) := by decide +kernel
theorem dX2_pass_5 : decode cX2_pass 5 = .ok (.aload_n 0, 1) := by decide +kernel
theorem dX2_pass_6 : decode cX2_pass 6 = .ok (.getfield 25, 3) := by decide +kernel
theorem dX2_pass_9 : decode cX2_pass 9 = .ok (.ifCond .ne 4, 3) := by decide +kernel
theorem dX2_pass_12 : decode cX2_pass 12 = .ok (.return_, 1) := by decide +kernel
theorem dX2_pass_13 : decode cX2_pass 13 = .ok (.aload_n 0, 1) := by decide +kernel
theorem dX2_pass_14 : decode cX2_pass 14 = .ok (.dup, 1) := by decide +kernel
theorem dX2_pass_15 : decode cX2_pass 15 = .ok (.getfield 39, 3) := by decide +kernel
theorem dX2_pass_18 : decode cX2_pass 18 = .ok (.aload_n 0, 1) := by decide +kernel
theorem dX2_pass_19 : decode cX2_pass 19 = .ok (.aload_n 0, 1) := by decide +kernel
theorem dX2_pass_20 : decode cX2_pass 20 = .ok (.getfield 7, 3) := by decide +kernel
theorem dX2_pass_23 : decode cX2_pass 23 = .ok (.aload_n 0, 1) := by decide +kernel
theorem dX2_pass_24 : decode cX2_pass 24 = .ok (.getfield 13, 3) := by decide +kernel
theorem dX2_pass_27 : decode cX2_pass 27 = .ok (.invokevirtual 48, 3) := by decide +kernel
theorem dX2_pass_30 : decode cX2_pass 30 = .ok (.iadd, 1) := by decide +kernel
theorem dX2_pass_31 : decode cX2_pass 31 = .ok (.putfield 39, 3) := by decide +kernel
theorem dX2_pass_34 : decode cX2_pass 34 = .ok (.aload_n 0, 1) := by decide +kernel
theorem dX2_pass_35 : decode cX2_pass 35 = .ok (.getfield 39, 3) := by decide +kernel
theorem dX2_pass_38 : decode cX2_pass 38 = .ok (.sipush 899, 3) := by decide +kernel
theorem dX2_pass_41 : decode cX2_pass 41 = .ok (.if_icmp .le 164, 3) := by decide +kernel
theorem dX2_pass_44 : decode cX2_pass 44 = .ok (.aload_n 0, 1) := by decide +kernel
theorem dX2_pass_45 : decode cX2_pass 45 = .ok (.dup, 1) := by decide +kernel
theorem dX2_pass_46 : decode cX2_pass 46 = .ok (.getfield 39, 3) := by decide +kernel
theorem dX2_pass_49 : decode cX2_pass 49 = .ok (.sipush 900, 3) := by decide +kernel
theorem dX2_pass_52 : decode cX2_pass 52 = .ok (.isub, 1) := by decide +kernel
theorem dX2_pass_53 : decode cX2_pass 53 = .ok (.putfield 39, 3) := by decide +kernel
theorem dX2_pass_56 : decode cX2_pass 56 = .ok (.aload_n 0, 1) := by decide +kernel
theorem dX2_pass_57 : decode cX2_pass 57 = .ok (.aload_n 0, 1) := by decide +kernel
theorem dX2_pass_58 : decode cX2_pass 58 = .ok (.getfield 36, 3) := by decide +kernel
theorem dX2_pass_61 : decode cX2_pass 61 = .ok (.sipush 719, 3) := by decide +kernel
theorem dX2_pass_64 : decode cX2_pass 64 = .ok (.if_icmp .ne 7, 3) := by decide +kernel
theorem dX2_pass_67 : decode cX2_pass 67 = .ok (.iconst 0, 1) := by decide +kernel
theorem dX2_pass_68 : decode cX2_pass 68 = .ok (.goto 9, 3) := by decide +kernel
theorem dX2_pass_71 : decode cX2_pass 71 = .ok (.aload_n 0, 1) := by decide +kernel
theorem dX2_pass_72 : decode cX2_pass 72 = .ok (.getfield 36, 3) := by decide +kernel
theorem dX2_pass_75 : decode cX2_pass 75 = .ok (.iconst 1, 1) := by decide +kernel
theorem dX2_pass_76 : decode cX2_pass 76 = .ok (.iadd, 1) := by decide +kernel
theorem dX2_pass_77 : decode cX2_pass 77 = .ok (.putfield 36, 3) := by decide +kernel
theorem dX2_pass_80 : decode cX2_pass 80 = .ok (.aload_n 0, 1) := by decide +kernel
theorem dX2_pass_81 : decode cX2_pass 81 = .ok (.getfield 36, 3) := by decide +kernel
theorem dX2_pass_84 : decode cX2_pass 84 = .ok (.bipush 60, 2) := by decide +kernel
theorem dX2_pass_86 : decode cX2_pass 86 = .ok (.irem, 1) := by decide +kernel
theorem dX2_pass_87 : decode cX2_pass 87 = .ok (.ifCond .ne 25, 3) := by decide +kernel
theorem dX2_pass_90 : decode cX2_pass 90 = .ok (.aload_n 0, 1) := by decide +kernel
theorem dX2_pass_91 : decode cX2_pass 91 = .ok (.getfield 36, 3) := by decide +kernel
theorem dX2_pass_94 : decode cX2_pass 94 = .ok (.ifCond .ne 8, 3) := by decide +kernel
theorem dX2_pass_97 : decode cX2_pass 97 = .ok (.bipush 12, 2) := by decide +kernel
theorem dX2_pass_99 : decode cX2_pass 99 = .ok (.goto 30, 3) := by decide +kernel
theorem dX2_pass_102 : decode cX2_pass 102 = .ok (.aload_n 0, 1) := by decide +kernel
theorem dX2_pass_103 : decode cX2_pass 103 = .ok (.getfield 36, 3) := by decide +kernel
theorem dX2_pass_106 : decode cX2_pass 106 = .ok (.bipush 60, 2) := by decide +kernel
theorem dX2_pass_108 : decode cX2_pass 108 = .ok (.idiv, 1) := by decide +kernel
theorem dX2_pass_109 : decode cX2_pass 109 = .ok (.goto 20, 3) := by decide +kernel
theorem dX2_pass_112 : decode cX2_pass 112 = .ok (.aload_n 0, 1) := by decide +kernel
theorem dX2_pass_113 : decode cX2_pass 113 = .ok (.getfield 36, 3) := by decide +kernel
theorem dX2_pass_116 : decode cX2_pass 116 = .ok (.bipush 60, 2) := by decide +kernel
theorem dX2_pass_118 : decode cX2_pass 118 = .ok (.irem, 1) := by decide +kernel
theorem dX2_pass_119 : decode cX2_pass 119 = .ok (.bipush 30, 2) := by decide +kernel
theorem dX2_pass_121 : decode cX2_pass 121 = .ok (.if_icmp .ne 7, 3) := by decide +kernel
theorem dX2_pass_124 : decode cX2_pass 124 = .ok (.iconst 1, 1) := by decide +kernel
theorem dX2_pass_125 : decode cX2_pass 125 = .ok (.goto 4, 3) := by decide +kernel
theorem dX2_pass_128 : decode cX2_pass 128 = .ok (.iconst 0, 1) := by decide +kernel
theorem dX2_pass_129 : decode cX2_pass 129 = .ok (.istore_n 2, 1) := by decide +kernel
theorem dX2_pass_130 : decode cX2_pass 130 = .ok (.aload_n 0, 1) := by decide +kernel
theorem dX2_pass_131 : decode cX2_pass 131 = .ok (.aload_n 0, 1) := by decide +kernel
theorem dX2_pass_132 : decode cX2_pass 132 = .ok (.getfield 36, 3) := by decide +kernel
theorem dX2_pass_135 : decode cX2_pass 135 = .ok (.invokevirtual 52, 3) := by decide +kernel
theorem dX2_pass_138 : decode cX2_pass 138 = .ok (.ifCond .eq 5, 3) := by decide +kernel
theorem dX2_pass_141 : decode cX2_pass 141 = .ok (.iconst 0, 1) := by decide +kernel
theorem dX2_pass_142 : decode cX2_pass 142 = .ok (.istore_n 2, 1) := by decide +kernel
theorem dX2_pass_143 : decode cX2_pass 143 = .ok (.iload_n 2, 1) := by decide +kernel
theorem dX2_pass_144 : decode cX2_pass 144 = .ok (.aload_n 0, 1) := by decide +kernel
theorem dX2_pass_145 : decode cX2_pass 145 = .ok (.getfield 22, 3) := by decide +kernel
theorem dX2_pass_148 : decode cX2_pass 148 = .ok (.if_icmp .ge 7, 3) := by decide +kernel
theorem dX2_pass_151 : decode cX2_pass 151 = .ok (.iload_n 2, 1) := by decide +kernel
theorem dX2_pass_152 : decode cX2_pass 152 = .ok (.goto 7, 3) := by decide +kernel
theorem dX2_pass_155 : decode cX2_pass 155 = .ok (.aload_n 0, 1) := by decide +kernel
theorem dX2_pass_156 : decode cX2_pass 156 = .ok (.getfield 22, 3) := by decide +kernel
theorem dX2_pass_159 : decode cX2_pass 159 = .ok (.istore_n 3, 1) := by decide +kernel
theorem dX2_pass_160 : decode cX2_pass 160 = .ok (.aload_n 0, 1) := by decide +kernel
theorem dX2_pass_161 : decode cX2_pass 161 = .ok (.dup, 1) := by decide +kernel
theorem dX2_pass_162 : decode cX2_pass 162 = .ok (.getfield 22, 3) := by decide +kernel
theorem dX2_pass_165 : decode cX2_pass 165 = .ok (.iload_n 3, 1) := by decide +kernel
theorem dX2_pass_166 : decode cX2_pass 166 = .ok (.isub, 1) := by decide +kernel
theorem dX2_pass_167 : decode cX2_pass 167 = .ok (.putfield 22, 3) := by decide +kernel
theorem dX2_pass_170 : decode cX2_pass 170 = .ok (.aload_n 0, 1) := by decide +kernel
theorem dX2_pass_171 : decode cX2_pass 171 = .ok (.dup, 1) := by decide +kernel
theorem dX2_pass_172 : decode cX2_pass 172 = .ok (.getfield 56, 3) := by decide +kernel
theorem dX2_pass_175 : decode cX2_pass 175 = .ok (.iload_n 3, 1) := by decide +kernel
theorem dX2_pass_176 : decode cX2_pass 176 = .ok (.iadd, 1) := by decide +kernel
theorem dX2_pass_177 : decode cX2_pass 177 = .ok (.putfield 56, 3) := by decide +kernel
theorem dX2_pass_180 : decode cX2_pass 180 = .ok (.aload_n 0, 1) := by decide +kernel
theorem dX2_pass_181 : decode cX2_pass 181 = .ok (.dup, 1) := by decide +kernel
theorem dX2_pass_182 : decode cX2_pass 182 = .ok (.getfield 45, 3) := by decide +kernel
theorem dX2_pass_185 : decode cX2_pass 185 = .ok (.iload_n 3, 1) := by decide +kernel
theorem dX2_pass_186 : decode cX2_pass 186 = .ok (.iadd, 1) := by decide +kernel
theorem dX2_pass_187 : decode cX2_pass 187 = .ok (.putfield 45, 3) := by decide +kernel
theorem dX2_pass_190 : decode cX2_pass 190 = .ok (.aload_n 0, 1) := by decide +kernel
theorem dX2_pass_191 : decode cX2_pass 191 = .ok (.dup, 1) := by decide +kernel
theorem dX2_pass_192 : decode cX2_pass 192 = .ok (.getfield 59, 3) := by decide +kernel
theorem dX2_pass_195 : decode cX2_pass 195 = .ok (.iload_n 2, 1) := by decide +kernel
theorem dX2_pass_196 : decode cX2_pass 196 = .ok (.iload_n 3, 1) := by decide +kernel
theorem dX2_pass_197 : decode cX2_pass 197 = .ok (.isub, 1) := by decide +kernel
theorem dX2_pass_198 : decode cX2_pass 198 = .ok (.iadd, 1) := by decide +kernel
theorem dX2_pass_199 : decode cX2_pass 199 = .ok (.putfield 59, 3) := by decide +kernel
theorem dX2_pass_202 : decode cX2_pass 202 = .ok (.goto (-168), 3) := by decide +kernel
theorem dX2_pass_205 : decode cX2_pass 205 = .ok (.aload_n 0, 1) := by decide +kernel
theorem dX2_pass_206 : decode cX2_pass 206 = .ok (.dup, 1) := by decide +kernel
theorem dX2_pass_207 : decode cX2_pass 207 = .ok (.getfield 16, 3) := by decide +kernel
theorem dX2_pass_210 : decode cX2_pass 210 = .ok (.iconst 1, 1) := by decide +kernel
theorem dX2_pass_211 : decode cX2_pass 211 = .ok (.isub, 1) := by decide +kernel
theorem dX2_pass_212 : decode cX2_pass 212 = .ok (.putfield 16, 3) := by decide +kernel
theorem dX2_pass_215 : decode cX2_pass 215 = .ok (.iload_n 1, 1) := by decide +kernel
theorem dX2_pass_216 : decode cX2_pass 216 = .ok (.bipush 10, 2) := by decide +kernel
theorem dX2_pass_218 : decode cX2_pass 218 = .ok (.irem, 1) := by decide +kernel
theorem dX2_pass_219 : decode cX2_pass 219 = .ok (.ifCond .ne 20, 3) := by decide +kernel
theorem dX2_pass_222 : decode cX2_pass 222 = .ok (.aload_n 0, 1) := by decide +kernel
theorem dX2_pass_223 : decode cX2_pass 223 = .ok (.getfield 19, 3) := by decide +kernel
theorem dX2_pass_226 : decode cX2_pass 226 = .ok (.ifCond .le 13, 3) := by decide +kernel
theorem dX2_pass_229 : decode cX2_pass 229 = .ok (.aload_n 0, 1) := by decide +kernel
theorem dX2_pass_230 : decode cX2_pass 230 = .ok (.dup, 1) := by decide +kernel
theorem dX2_pass_231 : decode cX2_pass 231 = .ok (.getfield 19, 3) := by decide +kernel
theorem dX2_pass_234 : decode cX2_pass 234 = .ok (.iconst 1, 1) := by decide +kernel
theorem dX2_pass_235 : decode cX2_pass 235 = .ok (.isub, 1) := by decide +kernel
theorem dX2_pass_236 : decode cX2_pass 236 = .ok (.putfield 19, 3) := by decide +kernel
theorem dX2_pass_239 : decode cX2_pass 239 = .ok (.aload_n 0, 1) := by decide +kernel
theorem dX2_pass_240 : decode cX2_pass 240 = .ok (.aload_n 0, 1) := by decide +kernel
theorem dX2_pass_241 : decode cX2_pass 241 = .ok (.getfield 16, 3) := by decide +kernel
theorem dX2_pass_244 : decode cX2_pass 244 = .ok (.ifCond .le 7, 3) := by decide +kernel
theorem dX2_pass_247 : decode cX2_pass 247 = .ok (.iconst 1, 1) := by decide +kernel
theorem dX2_pass_248 : decode cX2_pass 248 = .ok (.goto 4, 3) := by decide +kernel
theorem dX2_pass_251 : decode cX2_pass 251 = .ok (.iconst 0, 1) := by decide +kernel
theorem dX2_pass_252 : decode cX2_pass 252 = .ok (.putfield 25, 3) := by decide +kernel
theorem dX2_pass_255 : decode cX2_pass 255 = .ok (.return_, 1) := by decide +kernel
theorem dX2_off_0 : decode cX2_off 0 = .ok (.aload_n 0, 1) := by decide +kernel
theorem dX2_off_1 : decode cX2_off 1 = .ok (.getfield 36, 3) := by decide +kernel
theorem dX2_off_4 : decode cX2_off 4 = .ok (.iload_n 1, 1) := by decide +kernel
theorem dX2_off_5 : decode cX2_off 5 = .ok (.sipush 720, 3) := by decide +kernel
theorem dX2_off_8 : decode cX2_off 8 = .ok (.irem, 1) := by decide +kernel
theorem dX2_off_9 : decode cX2_off 9 = .ok (.isub, 1) := by decide +kernel
theorem dX2_off_10 : decode cX2_off 10 = .ok (.istore_n 2, 1) := by decide +kernel
theorem dX2_off_11 : decode cX2_off 11 = .ok (.iload_n 2, 1) := by decide +kernel
theorem dX2_off_12 : decode cX2_off 12 = .ok (.sipush (-360), 3) := by decide +kernel
theorem dX2_off_15 : decode cX2_off 15 = .ok (.if_icmp .ge 12, 3) := by decide +kernel
theorem dX2_off_18 : decode cX2_off 18 = .ok (.iinc 2 720, 6) := by decide +kernel
theorem dX2_off_24 : decode cX2_off 24 = .ok (.goto (-13), 3) := by decide +kernel
theorem dX2_off_27 : decode cX2_off 27 = .ok (.iload_n 2, 1) := by decide +kernel
theorem dX2_off_28 : decode cX2_off 28 = .ok (.sipush 359, 3) := by decide +kernel
theorem dX2_off_31 : decode cX2_off 31 = .ok (.if_icmp .le 12, 3) := by decide +kernel
theorem dX2_off_34 : decode cX2_off 34 = .ok (.iinc 2 (-720), 6) := by decide +kernel
theorem dX2_off_40 : decode cX2_off 40 = .ok (.goto (-13), 3) := by decide +kernel
theorem dX2_off_43 : decode cX2_off 43 = .ok (.iload_n 2, 1) := by decide +kernel
theorem dX2_off_44 : decode cX2_off 44 = .ok (.ireturn, 1) := by decide +kernel
theorem dX3_init_0 : decode cX3_init 0 = .ok (.aload_n 0, 1) := by decide +kernel
theorem dX3_init_1 : decode cX3_init 1 = .ok (.invokespecial 1, 3) := by decide +kernel
theorem dX3_init_4 : decode cX3_init 4 = .ok (.aload_n 0, 1) := by decide +kernel
theorem dX3_init_5 : decode cX3_init 5 = .ok (.iconst 0, 1) := by decide +kernel
theorem dX3_init_6 : decode cX3_init 6 = .ok (.anewarray 7, 3) := by decide +kernel
theorem dX3_init_9 : decode cX3_init 9 = .ok (.putfield 9, 3) := by decide +kernel
theorem dX3_init_12 : decode cX3_init 12 = .ok (.return_, 1) := by decide +kernel
set_option maxRecDepth 20000 in
theorem ggX3_come_X2_init : GoodIn wsX3_come wsX2_init := goodIn_r _ [7, 8, 9, 10, 11, 12, 13, 14, 15, 16, 17, 20, 21, 22, 23, 24, 25, 26, 27, 28, 29, 30, 31, 32, 33] (by decide +kernel) (by decide +kernel)
set_option maxRecDepth 20000 in
theorem gX3_come_X2_init_n24 : GoodIn wsX3_come (wsX2_init) := ggX3_come_X2_init
theorem dX3_come_0 : decode cX3_come 0 = .ok (.aload_n 0, 1) := by decide +kernel
theorem dX3_come_1 : decode cX3_come 1 = .ok (.getfield 9, 3) := by decide +kernel
theorem dX3_come_4 : decode cX3_come 4 = .ok (.arraylength, 1) := by decide +kernel
theorem dX3_come_5 : decode cX3_come 5 = .ok (.iconst 1, 1) := by decide +kernel
theorem dX3_come_6 : decode cX3_come 6 = .ok (.iadd, 1) := by decide +kernel
theorem dX3_come_7 : decode cX3_come 7 = .ok (.anewarray 7, 3) := by decide +kernel
theorem dX3_come_10 : decode cX3_come 10 = .ok (.astore_n 2, 1) := by decide +kernel
theorem dX3_come_11 : decode cX3_come 11 = .ok (.iconst 0, 1) := by decide +kernel
theorem dX3_come_12 : decode cX3_come 12 = .ok (.istore_n 3, 1) := by decide +kernel
theorem dX3_come_13 : decode cX3_come 13 = .ok (.iload_n 3, 1) := by decide +kernel
theorem dX3_come_14 : decode cX3_come 14 = .ok (.aload_n 0, 1) := by decide +kernel
theorem dX3_come_15 : decode cX3_come 15 = .ok (.getfield 9, 3) := by decide +kernel
theorem dX3_come_18 : decode cX3_come 18 = .ok (.arraylength, 1) := by decide +kernel
theorem dX3_come_19 : decode cX3_come 19 = .ok (.if_icmp .ge 18, 3) := by decide +kernel
theorem dX3_come_22 : decode cX3_come 22 = .ok (.aload_n 2, 1) := by decide +kernel
theorem dX3_come_23 : decode cX3_come 23 = .ok (.iload_n 3, 1) := by decide +kernel
theorem dX3_come_24 : decode cX3_come 24 = .ok (.aload_n 0, 1) := by decide +kernel
theorem dX3_come_25 : decode cX3_come 25 = .ok (.getfield 9, 3) := by decide +kernel
theorem dX3_come_28 : decode cX3_come 28 = .ok (.iload_n 3, 1) := by decide +kernel
theorem dX3_come_29 : decode cX3_come 29 = .ok (.aaload, 1) := by decide +kernel
theorem dX3_come_30 : decode cX3_come 30 = .ok (.aastore, 1) := by decide +kernel
theorem dX3_come_31 : decode cX3_come 31 = .ok (.iinc 3 1, 3) := by decide +kernel
theorem dX3_come_34 : decode cX3_come 34 = .ok (.goto (-21), 3) := by decide +kernel
theorem dX3_come_37 : decode cX3_come 37 = .ok (.new 7, 3) := by decide +kernel
theorem dX3_come_40 : decode cX3_come 40 = .ok (.dup, 1) := by decide +kernel
theorem dX3_come_41 : decode cX3_come 41 = .ok (.invokespecial 24, 3) := by decide +kernel
theorem dX3_come_44 : decode cX3_come 44 = .ok (.astore_n 3, 1) := by decide +kernel
theorem dX3_come_45 : decode cX3_come 45 = .ok (.aload_n 3, 1) := by decide +kernel
theorem dX3_come_46 : decode cX3_come 46 = .ok (.iload_n 1, 1) := by decide +kernel
theorem dX3_come_47 : decode cX3_come 47 = .ok (.putfield 25, 3) := by decide +kernel
theorem dX3_come_50 : decode cX3_come 50 = .ok (.aload_n 2, 1) := by decide +kernel
theorem dX3_come_51 : decode cX3_come 51 = .ok (.aload_n 0, 1) := by decide +kernel
theorem dX3_come_52 : decode cX3_come 52 = .ok (.getfield 9, 3) := by decide +kernel
theorem dX3_come_55 : decode cX3_come 55 = .ok (.arraylength, 1) := by decide +kernel
theorem dX3_come_56 : decode cX3_come 56 = .ok (.aload_n 3, 1) := by decide +kernel
theorem dX3_come_57 : decode cX3_come 57 = .ok (.aastore, 1) := by decide +kernel
theorem dX3_come_58 : decode cX3_come 58 = .ok (.aload_n 0, 1) := by decide +kernel
theorem dX3_come_59 : decode cX3_come 59 = .ok (.aload_n 2, 1) := by decide +kernel
theorem dX3_come_60 : decode cX3_come 60 = .ok (.putfield 9, 3) := by decide +kernel
theorem dX3_come_63 : decode cX3_come 63 = .ok (.aload_n 3, 1) := by decide +kernel
theorem dX3_come_64 : decode cX3_come 64 = .ok (.areturn, 1) := by decide +kernel
set_option maxRecDepth 20000 in
theorem ggX3_pass_X2_pass : GoodIn wsX3_pass wsX2_pass := goodIn_r _ [8, 9, 10, 11, 12, 13, 14, 15, 16, 17, 18, 19, 20, 21, 22, 7, 23, 24, 25, 26, 27, 28, 29, 30, 33, 34, 35, 36, 37, 38, 39, 40, 41, 42, 43, 44, 45, 46] (by decide +kernel) (by decide +kernel)
set_option maxRecDepth 20000 in
theorem gX3_pass_X2_pass : GoodIn wsX3_pass (wsV RX3 28 RX2 yX2_pass wsX2_pass) := goodIn_app (goodIn_of _ (by decide +kernel)) ggX3_pass_X2_pass
theorem dX3_pass_0 : decode cX3_pass 0 = .ok (.iconst 0, 1) := by decide +kernel
theorem dX3_pass_1 : decode cX3_pass 1 = .ok (.istore_n 1, 1) := by decide +kernel
theorem dX3_pass_2 : decode cX3_pass 2 = .ok (.aload_n 0, 1) := by decide +kernel
theorem dX3_pass_3 : decode cX3_pass 3 = .ok (.getfield 9, 3) := by decide +kernel
theorem dX3_pass_6 : decode cX3_pass 6 = .ok (.astore_n 2, 1) := by decide +kernel
theorem dX3_pass_7 : decode cX3_pass 7 = .ok (.aload_n 2, 1) := by decide +kernel
theorem dX3_pass_8 : decode cX3_pass 8 = .ok (.arraylength, 1) := by decide +kernel
theorem dX3_pass_9 : decode cX3_pass 9 = .ok (.istore_n 3, 1) := by decide +kernel
theorem dX3_pass_10 : decode cX3_pass 10 = .ok (.iconst 0, 1) := by decide +kernel
theorem dX3_pass_11 : decode cX3_pass 11 = .ok (.istore 4, 2) := by decide +kernel
theorem dX3_pass_13 : decode cX3_pass 13 = .ok (.iload 4, 2) := by decide +kernel
theorem dX3_pass_15 : decode cX3_pass 15 = .ok (.iload_n 3, 1) := by decide +kernel
theorem dX3_pass_16 : decode cX3_pass 16 = .ok (.if_icmp .ge 32, 3) := by decide +kernel
theorem dX3_pass_19 : decode cX3_pass 19 = .ok (.aload_n 2, 1) := by decide +kernel
theorem dX3_pass_20 : decode cX3_pass 20 = .ok (.iload 4, 2) := by decide +kernel
theorem dX3_pass_22 : decode cX3_pass 22 = .ok (.aaload, 1) := by decide +kernel
theorem dX3_pass_23 : decode cX3_pass 23 = .ok (.astore 5, 2) := by decide +kernel
theorem dX3_pass_25 : decode cX3_pass 25 = .ok (.aload 5, 2) := by decide +kernel
theorem dX3_pass_27 : decode cX3_pass 27 = .ok (.aload_n 0, 1) := by decide +kernel
theorem dX3_pass_28 : decode cX3_pass 28 = .ok (.getfield 20, 3) := by decide +kernel
theorem dX3_pass_31 : decode cX3_pass 31 = .ok (.invokevirtual 28, 3) := by decide +kernel
theorem dX3_pass_34 : decode cX3_pass 34 = .ok (.iload_n 1, 1) := by decide +kernel
theorem dX3_pass_35 : decode cX3_pass 35 = .ok (.aload 5, 2) := by decide +kernel
theorem dX3_pass_37 : decode cX3_pass 37 = .ok (.getfield 32, 3) := by decide +kernel
theorem dX3_pass_40 : decode cX3_pass 40 = .ok (.iadd, 1) := by decide +kernel
theorem dX3_pass_41 : decode cX3_pass 41 = .ok (.istore_n 1, 1) := by decide +kernel
theorem dX3_pass_42 : decode cX3_pass 42 = .ok (.iinc 4 1, 3) := by decide +kernel
theorem dX3_pass_45 : decode cX3_pass 45 = .ok (.goto (-32), 3) := by decide +kernel
theorem dX3_pass_48 : decode cX3_pass 48 = .ok (.aload_n 0, 1) := by decide +kernel
theorem dX3_pass_49 : decode cX3_pass 49 = .ok (.dup, 1) := by decide +kernel
theorem dX3_pass_50 : decode cX3_pass 50 = .ok (.getfield 20, 3) := by decide +kernel
theorem dX3_pass_53 : decode cX3_pass 53 = .ok (.iconst 1, 1) := by decide +kernel
theorem dX3_pass_54 : decode cX3_pass 54 = .ok (.iadd, 1) := by decide +kernel
theorem dX3_pass_55 : decode cX3_pass 55 = .ok (.putfield 20, 3) := by decide +kernel
theorem dX3_pass_58 : decode cX3_pass 58 = .ok (.iload_n 1, 1) := by decide +kernel
theorem dX3_pass_59 : decode cX3_pass 59 = .ok (.ireturn, 1) := by decide +kernel
theorem dX3_go_0 : decode cX3_go 0 = .ok (.iconst 0, 1) := by decide +kernel
theorem dX3_go_1 : decode cX3_go 1 = .ok (.istore_n 1, 1) := by decide +kernel
theorem dX3_go_2 : decode cX3_go 2 = .ok (.aload_n 0, 1) := by decide +kernel
theorem dX3_go_3 : decode cX3_go 3 = .ok (.getfield 9, 3) := by decide +kernel
theorem dX3_go_6 : decode cX3_go 6 = .ok (.astore_n 2, 1) := by decide +kernel
theorem dX3_go_7 : decode cX3_go 7 = .ok (.aload_n 2, 1) := by decide +kernel
theorem dX3_go_8 : decode cX3_go 8 = .ok (.arraylength, 1) := by decide +kernel
theorem dX3_go_9 : decode cX3_go 9 = .ok (.istore_n 3, 1) := by decide +kernel
theorem dX3_go_10 : decode cX3_go 10 = .ok (.iconst 0, 1) := by decide +kernel
theorem dX3_go_11 : decode cX3_go 11 = .ok (.istore 4, 2) := by decide +kernel
theorem dX3_go_13 : decode cX3_go 13 = .ok (.iload 4, 2) := by decide +kernel
theorem dX3_go_15 : decode cX3_go 15 = .ok (.iload_n 3, 1) := by decide +kernel
theorem dX3_go_16 : decode cX3_go 16 = .ok (.if_icmp .ge 31, 3) := by decide +kernel
theorem dX3_go_19 : decode cX3_go 19 = .ok (.aload_n 2, 1) := by decide +kernel
theorem dX3_go_20 : decode cX3_go 20 = .ok (.iload 4, 2) := by decide +kernel
theorem dX3_go_22 : decode cX3_go 22 = .ok (.aaload, 1) := by decide +kernel
theorem dX3_go_23 : decode cX3_go 23 = .ok (.astore 5, 2) := by decide +kernel
theorem dX3_go_25 : decode cX3_go 25 = .ok (.iload_n 1, 1) := by decide +kernel
theorem dX3_go_26 : decode cX3_go 26 = .ok (.aload 5, 2) := by decide +kernel
theorem dX3_go_28 : decode cX3_go 28 = .ok (.getfield 38, 3) := by decide +kernel
theorem dX3_go_31 : decode cX3_go 31 = .ok (.ifCond .eq 7, 3) := by decide +kernel
theorem dX3_go_34 : decode cX3_go 34 = .ok (.iconst 1, 1) := by decide +kernel
theorem dX3_go_35 : decode cX3_go 35 = .ok (.goto 4, 3) := by decide +kernel
theorem dX3_go_38 : decode cX3_go 38 = .ok (.iconst 0, 1) := by decide +kernel
theorem dX3_go_39 : decode cX3_go 39 = .ok (.iadd, 1) := by decide +kernel
theorem dX3_go_40 : decode cX3_go 40 = .ok (.istore_n 1, 1) := by decide +kernel
theorem dX3_go_41 : decode cX3_go 41 = .ok (.iinc 4 1, 3) := by decide +kernel
theorem dX3_go_44 : decode cX3_go 44 = .ok (.goto (-31), 3) := by decide +kernel
theorem dX3_go_47 : decode cX3_go 47 = .ok (.iload_n 1, 1) := by decide +kernel
theorem dX3_go_48 : decode cX3_go 48 = .ok (.ireturn, 1) := by decide +kernel
set_option maxRecDepth 20000 in
theorem ggX3_off_X2_off : GoodIn wsX3_off wsX2_off := goodIn_r _ [11, 12, 15, 16, 17, 18, 19, 20, 21, 22, 23, 24, 25, 26, 27, 28] (by decide +kernel) (by decide +kernel)
set_option maxRecDepth 20000 in
theorem gX3_off_X2_off : GoodIn wsX3_off (wsV RX3 42 RX2 yX2_off wsX2_off) := goodIn_app (goodIn_of _ (by decide +kernel)) ggX3_off_X2_off
theorem dX3_off_0 : decode cX3_off 0 = .ok (.iconst 0, 1) := by decide +kernel
theorem dX3_off_1 : decode cX3_off 1 = .ok (.istore_n 1, 1) := by decide +kernel
theorem dX3_off_2 : decode cX3_off 2 = .ok (.aload_n 0, 1) := by decide +kernel
theorem dX3_off_3 : decode cX3_off 3 = .ok (.getfield 9, 3) := by decide +kernel
theorem dX3_off_6 : decode cX3_off 6 = .ok (.astore_n 2, 1) := by decide +kernel
theorem dX3_off_7 : decode cX3_off 7 = .ok (.aload_n 2, 1) := by decide +kernel
theorem dX3_off_8 : decode cX3_off 8 = .ok (.arraylength, 1) := by decide +kernel
theorem dX3_off_9 : decode cX3_off 9 = .ok (.istore_n 3, 1) := by decide +kernel
theorem dX3_off_10 : decode cX3_off 10 = .ok (.iconst 0, 1) := by decide +kernel
theorem dX3_off_11 : decode cX3_off 11 = .ok (.istore 4, 2) := by decide +kernel
theorem dX3_off_13 : decode cX3_off 13 = .ok (.iload 4, 2) := by decide +kernel
theorem dX3_off_15 : decode cX3_off 15 = .ok (.iload_n 3, 1) := by decide +kernel
theorem dX3_off_16 : decode cX3_off 16 = .ok (.if_icmp .ge 30, 3) := by decide +kernel
theorem dX3_off_19 : decode cX3_off 19 = .ok (.aload_n 2, 1) := by decide +kernel
theorem dX3_off_20 : decode cX3_off 20 = .ok (.iload 4, 2) := by decide +kernel
theorem dX3_off_22 : decode cX3_off 22 = .ok (.aaload, 1) := by decide +kernel
theorem dX3_off_23 : decode cX3_off 23 = .ok (.astore 5, 2) := by decide +kernel
theorem dX3_off_25 : decode cX3_off 25 = .ok (.iload_n 1, 1) := by decide +kernel
theorem dX3_off_26 : decode cX3_off 26 = .ok (.aload 5, 2) := by decide +kernel
theorem dX3_off_28 : decode cX3_off 28 = .ok (.aload_n 0, 1) := by decide +kernel
theorem dX3_off_29 : decode cX3_off 29 = .ok (.getfield 20, 3) := by decide +kernel
theorem dX3_off_32 : decode cX3_off 32 = .ok (.invokevirtual 42, 3) := by decide +kernel
theorem dX3_off_35 : decode cX3_off 35 = .ok (.invokestatic 46, 3) := by decide +kernel
theorem dX3_off_38 : decode cX3_off 38 = .ok (.iadd, 1) := by decide +kernel
theorem dX3_off_39 : decode cX3_off 39 = .ok (.istore_n 1, 1) := by decide +kernel
theorem dX3_off_40 : decode cX3_off 40 = .ok (.iinc 4 1, 3) := by decide +kernel
theorem dX3_off_43 : decode cX3_off 43 = .ok (.goto (-30), 3) := by decide +kernel
theorem dX3_off_46 : decode cX3_off 46 = .ok (.iload_n 1, 1) := by decide +kernel
theorem dX3_off_47 : decode cX3_off 47 = .ok (.ireturn, 1) := by decide +kernel
set_option maxRecDepth 20000 in
theorem ggX3_isSame_X2_advance : GoodIn wsX3_isSame wsX2_advance := goodIn_r _ [19, 20, 21, 141, 142, 143, 144, 145, 146, 147, 148, 149, 150, 151, 152, 153, 154] (by decide +kernel) (by decide +kernel)
set_option maxRecDepth 20000 in
theorem gX3_isSame_X2_advance : GoodIn wsX3_isSame (wsV RX3 69 RX2 yX2_advance wsX2_advance) := goodIn_app (goodIn_of _ (by decide +kernel)) ggX3_isSame_X2_advance
set_option maxRecDepth 20000 in
theorem ggX3_isSame_X2_isShut : GoodIn wsX3_isSame wsX2_isShut := goodIn_r _ [25, 26, 27, 141, 142, 143, 144, 145, 146, 147, 148, 149, 150, 151, 152, 153, 154] (by decide +kernel) (by decide +kernel)
set_option maxRecDepth 20000 in
theorem gX3_isSame_X2_isShut : GoodIn wsX3_isSame (wsV RX3 76 RX2 yX2_isShut wsX2_isShut) := goodIn_app (goodIn_of _ (by decide +kernel)) ggX3_isSame_X2_isShut
set_option maxRecDepth 20000 in
theorem ggX3_isSame_X1_clock : GoodIn wsX3_isSame wsX1_clock := goodIn_ca (goodIn_r _ [32, 33, 34, 35, 36, 37, 38, 31, 39, 40, 41, 42, 43, 44, 45, 46, 47, 48, 49, 50, 51, 52, 53, 54, 55, 56, 57, 58, 59, 60, 61, 62, 63, 64, 65, 66, 67, 68, 69, 70, 71, 72, 73, 155, 156, 157, 158, 159, 160, 161, 162, 163, 164, 165, 166, 167, 168, 169, 170, 171, 172] (by decide +kernel) (by decide +kernel)) (goodIn_sub (fun _ h => List.mem_cons_of_mem _ (List.mem_append_right _ h)) (by decide +kernel))
set_option maxRecDepth 20000 in
theorem gX3_isSame_X1_clock : GoodIn wsX3_isSame (wsV RX3 80 RX1 yX1_clock wsX1_clock) := goodIn_app (goodIn_of _ (by decide +kernel)) ggX3_isSame_X1_clock
set_option maxRecDepth 20000 in
theorem ggX3_isSame_X1_off : GoodIn wsX3_isSame wsX1_off := goodIn_ca (goodIn_r _ [77, 35, 78, 36, 37, 38, 31, 39, 33, 34, 40, 79, 80, 81, 82, 83, 84, 85, 86, 87, 88, 155, 156, 157, 158, 159, 160, 161, 162, 163, 164, 165, 166, 167, 168, 169, 170, 171, 172] (by decide +kernel) (by decide +kernel)) (goodIn_sub (fun _ h => List.mem_cons_of_mem _ (List.mem_append_right _ h)) (by decide +kernel))
set_option maxRecDepth 20000 in
theorem gX3_isSame_X1_off : GoodIn wsX3_isSame (wsV RX3 85 RX1 yX1_off wsX1_off) := goodIn_app (goodIn_of _ (by decide +kernel)) ggX3_isSame_X1_off
set_option maxRecDepth 20000 in
theorem ggX3_isSame_X2_off : GoodIn wsX3_isSame wsX2_off := goodIn_r _ [92, 93, 141, 142, 143, 144, 145, 146, 147, 148, 149, 150, 151, 152, 153, 154] (by decide +kernel) (by decide +kernel)
set_option maxRecDepth 20000 in
theorem gX3_isSame_X2_off : GoodIn wsX3_isSame (wsV RX3 42 RX2 yX2_off wsX2_off) := goodIn_app (goodIn_of _ (by decide +kernel)) ggX3_isSame_X2_off
set_option maxRecDepth 20000 in
theorem ggX3_isSame_X1_stands : GoodIn wsX3_isSame wsX1_stands := goodIn_ca (goodIn_r _ [97, 35, 36, 37, 38, 31, 39, 33, 34, 40, 98, 45, 99, 100, 53, 50, 155, 156, 157, 158, 159, 160, 161, 162, 163, 164, 165, 166, 167, 168, 169, 170, 171, 172] (by decide +kernel) (by decide +kernel)) (goodIn_sub (fun _ h => List.mem_cons_of_mem _ (List.mem_append_right _ h)) (by decide +kernel))
set_option maxRecDepth 20000 in
theorem gX3_isSame_X1_stands : GoodIn wsX3_isSame (wsV RX3 86 RX1 yX1_stands wsX1_stands) := goodIn_app (goodIn_of _ (by decide +kernel)) ggX3_isSame_X1_stands
set_option maxRecDepth 20000 in
theorem ggX3_isSame_X3_go : GoodIn wsX3_isSame wsX3_go := goodIn_r _ [105, 1, 8, 139, 140, 141, 142, 143, 144, 145, 146, 147, 148, 149, 150, 151, 152, 153, 154] (by decide +kernel) (by decide +kernel)
set_option maxRecDepth 20000 in
theorem gX3_isSame_X3_go : GoodIn wsX3_isSame (wsV RX3 89 RX3 yX3_go wsX3_go) := goodIn_app (goodIn_of _ (by decide +kernel)) ggX3_isSame_X3_go
set_option maxRecDepth 20000 in
theorem ggX3_isSame_X3_off : GoodIn wsX3_isSame wsX3_off := goodIn_r _ [109, 1, 14, 110, 111, 112, 113, 89, 90, 91, 18, 92, 93, 139, 140, 141, 142, 143, 144, 145, 146, 147, 148, 149, 150, 151, 152, 153, 154] (by decide +kernel) (by decide +kernel)
set_option maxRecDepth 20000 in
theorem gX3_isSame_X3_off : GoodIn wsX3_isSame (wsV RX3 93 RX3 yX3_off wsX3_off) := goodIn_app (goodIn_of _ (by decide +kernel)) ggX3_isSame_X3_off
set_option maxRecDepth 20000 in
theorem ggX3_isSame_X1_count : GoodIn wsX3_isSame wsX1_count := goodIn_ca (goodIn_r _ [117, 33, 34, 41, 42, 31, 43, 118, 119, 120, 121, 78, 40, 35, 82, 83, 84, 85, 86, 87, 88, 122, 123, 124, 125, 44, 45, 46, 47, 48, 49, 50, 51, 52, 53, 54, 55, 56, 57, 58, 59, 60, 61, 62, 63, 64, 65, 66, 67, 68, 69, 70, 71, 72, 73, 126, 127, 128, 129, 79, 80, 81, 130, 131, 132, 133, 134, 111, 112, 113, 155, 156, 157, 158, 159, 160, 161, 162, 163, 164, 165, 166, 167, 168, 169, 170, 171, 172] (by decide +kernel) (by decide +kernel)) (goodIn_sub (fun _ h => List.mem_cons_of_mem _ (List.mem_append_right _ h)) (by decide +kernel))
set_option maxRecDepth 20000 in
theorem gX3_isSame_X1_count : GoodIn wsX3_isSame (wsV RX3 95 RX1 yX1_count wsX1_count) := goodIn_app (goodIn_of _ (by decide +kernel)) ggX3_isSame_X1_count
set_option maxRecDepth 20000 in
theorem ggX3_isSame_X1_mean : GoodIn wsX3_isSame wsX1_mean := goodIn_r _ [138, 40, 35, 58, 45, 59, 60, 61, 62, 63, 64, 65, 66, 67, 51, 155, 156, 157, 158, 159, 160, 161, 162, 163, 164, 165, 166, 167, 168, 169, 170, 171, 172] (by decide +kernel) (by decide +kernel)
set_option maxRecDepth 20000 in
theorem gX3_isSame_X1_mean : GoodIn wsX3_isSame (wsV RX3 98 RX1 yX1_mean wsX1_mean) := goodIn_app (goodIn_of _ (by decide +kernel)) ggX3_isSame_X1_mean
theorem dX3_isSame_0 : decode cX3_isSame 0 = .ok (.iconst 0, 1) := by decide +kernel
theorem dX3_isSame_1 : decode cX3_isSame 1 = .ok (.istore_n 2, 1) := by decide +kernel
theorem dX3_isSame_2 : decode cX3_isSame 2 = .ok (.iconst 0, 1) := by decide +kernel
theorem dX3_isSame_3 : decode cX3_isSame 3 = .ok (.istore_n 3, 1) := by decide +kernel
theorem dX3_isSame_4 : decode cX3_isSame 4 = .ok (.iconst 0, 1) := by decide +kernel
theorem dX3_isSame_5 : decode cX3_isSame 5 = .ok (.istore 4, 2) := by decide +kernel
theorem dX3_isSame_7 : decode cX3_isSame 7 = .ok (.iconst 0, 1) := by decide +kernel
theorem dX3_isSame_8 : decode cX3_isSame 8 = .ok (.istore 5, 2) := by decide +kernel
theorem dX3_isSame_10 : decode cX3_isSame 10 = .ok (.iconst 0, 1) := by decide +kernel
theorem dX3_isSame_11 : decode cX3_isSame 11 = .ok (.istore 6, 2) := by decide +kernel
theorem dX3_isSame_13 : decode cX3_isSame 13 = .ok (.iload 6, 2) := by decide +kernel
theorem dX3_isSame_15 : decode cX3_isSame 15 = .ok (.aload_n 0, 1) := by decide +kernel
theorem dX3_isSame_16 : decode cX3_isSame 16 = .ok (.getfield 9, 3) := by decide +kernel
theorem dX3_isSame_19 : decode cX3_isSame 19 = .ok (.arraylength, 1) := by decide +kernel
theorem dX3_isSame_20 : decode cX3_isSame 20 = .ok (.if_icmp .ge 288, 3) := by decide +kernel
theorem dX3_isSame_23 : decode cX3_isSame 23 = .ok (.aload_n 0, 1) := by decide +kernel
theorem dX3_isSame_24 : decode cX3_isSame 24 = .ok (.getfield 9, 3) := by decide +kernel
theorem dX3_isSame_27 : decode cX3_isSame 27 = .ok (.iload 6, 2) := by decide +kernel
theorem dX3_isSame_29 : decode cX3_isSame 29 = .ok (.aaload, 1) := by decide +kernel
theorem dX3_isSame_30 : decode cX3_isSame 30 = .ok (.astore 7, 2) := by decide +kernel
theorem dX3_isSame_32 : decode cX3_isSame 32 = .ok (.bipush 11, 2) := by decide +kernel
theorem dX3_isSame_34 : decode cX3_isSame 34 = .ok (.newarray .int, 2) := by decide +kernel
theorem dX3_isSame_36 : decode cX3_isSame 36 = .ok (.dup, 1) := by decide +kernel
theorem dX3_isSame_37 : decode cX3_isSame 37 = .ok (.iconst 0, 1) := by decide +kernel
theorem dX3_isSame_38 : decode cX3_isSame 38 = .ok (.aload 7, 2) := by decide +kernel
theorem dX3_isSame_40 : decode cX3_isSame 40 = .ok (.getfield 25, 3) := by decide +kernel
theorem dX3_isSame_43 : decode cX3_isSame 43 = .ok (.iastore, 1) := by decide +kernel
theorem dX3_isSame_44 : decode cX3_isSame 44 = .ok (.dup, 1) := by decide +kernel
theorem dX3_isSame_45 : decode cX3_isSame 45 = .ok (.iconst 1, 1) := by decide +kernel
theorem dX3_isSame_46 : decode cX3_isSame 46 = .ok (.aload 7, 2) := by decide +kernel
theorem dX3_isSame_48 : decode cX3_isSame 48 = .ok (.getfield 51, 3) := by decide +kernel
theorem dX3_isSame_51 : decode cX3_isSame 51 = .ok (.iastore, 1) := by decide +kernel
theorem dX3_isSame_52 : decode cX3_isSame 52 = .ok (.dup, 1) := by decide +kernel
theorem dX3_isSame_53 : decode cX3_isSame 53 = .ok (.iconst 2, 1) := by decide +kernel
theorem dX3_isSame_54 : decode cX3_isSame 54 = .ok (.aload 7, 2) := by decide +kernel
theorem dX3_isSame_56 : decode cX3_isSame 56 = .ok (.getfield 54, 3) := by decide +kernel
theorem dX3_isSame_59 : decode cX3_isSame 59 = .ok (.iastore, 1) := by decide +kernel
theorem dX3_isSame_60 : decode cX3_isSame 60 = .ok (.dup, 1) := by decide +kernel
theorem dX3_isSame_61 : decode cX3_isSame 61 = .ok (.iconst 3, 1) := by decide +kernel
theorem dX3_isSame_62 : decode cX3_isSame 62 = .ok (.aload 7, 2) := by decide +kernel
theorem dX3_isSame_64 : decode cX3_isSame 64 = .ok (.getfield 57, 3) := by decide +kernel
theorem dX3_isSame_67 : decode cX3_isSame 67 = .ok (.iastore, 1) := by decide +kernel
theorem dX3_isSame_68 : decode cX3_isSame 68 = .ok (.dup, 1) := by decide +kernel
theorem dX3_isSame_69 : decode cX3_isSame 69 = .ok (.iconst 4, 1) := by decide +kernel
theorem dX3_isSame_70 : decode cX3_isSame 70 = .ok (.aload 7, 2) := by decide +kernel
theorem dX3_isSame_72 : decode cX3_isSame 72 = .ok (.getfield 60, 3) := by decide +kernel
theorem dX3_isSame_75 : decode cX3_isSame 75 = .ok (.iastore, 1) := by decide +kernel
theorem dX3_isSame_76 : decode cX3_isSame 76 = .ok (.dup, 1) := by decide +kernel
theorem dX3_isSame_77 : decode cX3_isSame 77 = .ok (.iconst 5, 1) := by decide +kernel
theorem dX3_isSame_78 : decode cX3_isSame 78 = .ok (.aload 7, 2) := by decide +kernel
theorem dX3_isSame_80 : decode cX3_isSame 80 = .ok (.getfield 38, 3) := by decide +kernel
theorem dX3_isSame_83 : decode cX3_isSame 83 = .ok (.ifCond .eq 7, 3) := by decide +kernel
theorem dX3_isSame_86 : decode cX3_isSame 86 = .ok (.iconst 1, 1) := by decide +kernel
theorem dX3_isSame_87 : decode cX3_isSame 87 = .ok (.goto 4, 3) := by decide +kernel
theorem dX3_isSame_90 : decode cX3_isSame 90 = .ok (.iconst 0, 1) := by decide +kernel
theorem dX3_isSame_91 : decode cX3_isSame 91 = .ok (.iastore, 1) := by decide +kernel
theorem dX3_isSame_92 : decode cX3_isSame 92 = .ok (.dup, 1) := by decide +kernel
theorem dX3_isSame_93 : decode cX3_isSame 93 = .ok (.bipush 6, 2) := by decide +kernel
theorem dX3_isSame_95 : decode cX3_isSame 95 = .ok (.aload 7, 2) := by decide +kernel
theorem dX3_isSame_97 : decode cX3_isSame 97 = .ok (.aload 7, 2) := by decide +kernel
theorem dX3_isSame_99 : decode cX3_isSame 99 = .ok (.getfield 63, 3) := by decide +kernel
theorem dX3_isSame_102 : decode cX3_isSame 102 = .ok (.aload 7, 2) := by decide +kernel
theorem dX3_isSame_104 : decode cX3_isSame 104 = .ok (.getfield 66, 3) := by decide +kernel
theorem dX3_isSame_107 : decode cX3_isSame 107 = .ok (.invokevirtual 69, 3) := by decide +kernel
theorem dX3_isSame_110 : decode cX3_isSame 110 = .ok (.iastore, 1) := by decide +kernel
theorem dX3_isSame_111 : decode cX3_isSame 111 = .ok (.dup, 1) := by decide +kernel
theorem dX3_isSame_112 : decode cX3_isSame 112 = .ok (.bipush 7, 2) := by decide +kernel
theorem dX3_isSame_114 : decode cX3_isSame 114 = .ok (.aload 7, 2) := by decide +kernel
theorem dX3_isSame_116 : decode cX3_isSame 116 = .ok (.getfield 73, 3) := by decide +kernel
theorem dX3_isSame_119 : decode cX3_isSame 119 = .ok (.iastore, 1) := by decide +kernel
theorem dX3_isSame_120 : decode cX3_isSame 120 = .ok (.dup, 1) := by decide +kernel
theorem dX3_isSame_121 : decode cX3_isSame 121 = .ok (.bipush 8, 2) := by decide +kernel
theorem dX3_isSame_123 : decode cX3_isSame 123 = .ok (.aload 7, 2) := by decide +kernel
theorem dX3_isSame_125 : decode cX3_isSame 125 = .ok (.getfield 35, 3) := by decide +kernel
theorem dX3_isSame_128 : decode cX3_isSame 128 = .ok (.iastore, 1) := by decide +kernel
theorem dX3_isSame_129 : decode cX3_isSame 129 = .ok (.dup, 1) := by decide +kernel
theorem dX3_isSame_130 : decode cX3_isSame 130 = .ok (.bipush 9, 2) := by decide +kernel
theorem dX3_isSame_132 : decode cX3_isSame 132 = .ok (.aload 7, 2) := by decide +kernel
theorem dX3_isSame_134 : decode cX3_isSame 134 = .ok (.getfield 32, 3) := by decide +kernel
theorem dX3_isSame_137 : decode cX3_isSame 137 = .ok (.iastore, 1) := by decide +kernel
theorem dX3_isSame_138 : decode cX3_isSame 138 = .ok (.dup, 1) := by decide +kernel
theorem dX3_isSame_139 : decode cX3_isSame 139 = .ok (.bipush 10, 2) := by decide +kernel
theorem dX3_isSame_141 : decode cX3_isSame 141 = .ok (.aload 7, 2) := by decide +kernel
theorem dX3_isSame_143 : decode cX3_isSame 143 = .ok (.aload 7, 2) := by decide +kernel
theorem dX3_isSame_145 : decode cX3_isSame 145 = .ok (.getfield 25, 3) := by decide +kernel
theorem dX3_isSame_148 : decode cX3_isSame 148 = .ok (.invokevirtual 76, 3) := by decide +kernel
theorem dX3_isSame_151 : decode cX3_isSame 151 = .ok (.ifCond .eq 7, 3) := by decide +kernel
theorem dX3_isSame_154 : decode cX3_isSame 154 = .ok (.iconst 1, 1) := by decide +kernel
theorem dX3_isSame_155 : decode cX3_isSame 155 = .ok (.goto 4, 3) := by decide +kernel
theorem dX3_isSame_158 : decode cX3_isSame 158 = .ok (.iconst 0, 1) := by decide +kernel
theorem dX3_isSame_159 : decode cX3_isSame 159 = .ok (.iastore, 1) := by decide +kernel
theorem dX3_isSame_160 : decode cX3_isSame 160 = .ok (.astore 8, 2) := by decide +kernel
theorem dX3_isSame_162 : decode cX3_isSame 162 = .ok (.iconst 0, 1) := by decide +kernel
theorem dX3_isSame_163 : decode cX3_isSame 163 = .ok (.istore 9, 2) := by decide +kernel
theorem dX3_isSame_165 : decode cX3_isSame 165 = .ok (.iload 9, 2) := by decide +kernel
theorem dX3_isSame_167 : decode cX3_isSame 167 = .ok (.bipush 11, 2) := by decide +kernel
theorem dX3_isSame_169 : decode cX3_isSame 169 = .ok (.if_icmp .ge 27, 3) := by decide +kernel
theorem dX3_isSame_172 : decode cX3_isSame 172 = .ok (.aload_n 1, 1) := by decide +kernel
theorem dX3_isSame_173 : decode cX3_isSame 173 = .ok (.iload 6, 2) := by decide +kernel
theorem dX3_isSame_175 : decode cX3_isSame 175 = .ok (.iload 9, 2) := by decide +kernel
theorem dX3_isSame_177 : decode cX3_isSame 177 = .ok (.invokevirtual 80, 3) := by decide +kernel
theorem dX3_isSame_180 : decode cX3_isSame 180 = .ok (.aload 8, 2) := by decide +kernel
theorem dX3_isSame_182 : decode cX3_isSame 182 = .ok (.iload 9, 2) := by decide +kernel
theorem dX3_isSame_184 : decode cX3_isSame 184 = .ok (.iaload, 1) := by decide +kernel
theorem dX3_isSame_185 : decode cX3_isSame 185 = .ok (.if_icmp .eq 5, 3) := by decide +kernel
theorem dX3_isSame_188 : decode cX3_isSame 188 = .ok (.iconst 0, 1) := by decide +kernel
theorem dX3_isSame_189 : decode cX3_isSame 189 = .ok (.ireturn, 1) := by decide +kernel
theorem dX3_isSame_190 : decode cX3_isSame 190 = .ok (.iinc 9 1, 3) := by decide +kernel
theorem dX3_isSame_193 : decode cX3_isSame 193 = .ok (.goto (-28), 3) := by decide +kernel
theorem dX3_isSame_196 : decode cX3_isSame 196 = .ok (.aload_n 1, 1) := by decide +kernel
theorem dX3_isSame_197 : decode cX3_isSame 197 = .ok (.iload 6, 2) := by decide +kernel
theorem dX3_isSame_199 : decode cX3_isSame 199 = .ok (.invokevirtual 85, 3) := by decide +kernel
theorem dX3_isSame_202 : decode cX3_isSame 202 = .ok (.aload 7, 2) := by decide +kernel
theorem dX3_isSame_204 : decode cX3_isSame 204 = .ok (.aload_n 0, 1) := by decide +kernel
theorem dX3_isSame_205 : decode cX3_isSame 205 = .ok (.getfield 20, 3) := by decide +kernel
theorem dX3_isSame_208 : decode cX3_isSame 208 = .ok (.invokevirtual 42, 3) := by decide +kernel
theorem dX3_isSame_211 : decode cX3_isSame 211 = .ok (.if_icmp .ne 29, 3) := by decide +kernel
theorem dX3_isSame_214 : decode cX3_isSame 214 = .ok (.aload_n 1, 1) := by decide +kernel
theorem dX3_isSame_215 : decode cX3_isSame 215 = .ok (.iload 6, 2) := by decide +kernel
theorem dX3_isSame_217 : decode cX3_isSame 217 = .ok (.invokevirtual 86, 3) := by decide +kernel
theorem dX3_isSame_220 : decode cX3_isSame 220 = .ok (.aload 7, 2) := by decide +kernel
theorem dX3_isSame_222 : decode cX3_isSame 222 = .ok (.getfield 38, 3) := by decide +kernel
theorem dX3_isSame_225 : decode cX3_isSame 225 = .ok (.ifCond .eq 11, 3) := by decide +kernel
theorem dX3_isSame_228 : decode cX3_isSame 228 = .ok (.aload 7, 2) := by decide +kernel
theorem dX3_isSame_230 : decode cX3_isSame 230 = .ok (.getfield 54, 3) := by decide +kernel
theorem dX3_isSame_233 : decode cX3_isSame 233 = .ok (.goto 4, 3) := by decide +kernel
theorem dX3_isSame_236 : decode cX3_isSame 236 = .ok (.iconst 0, 1) := by decide +kernel
theorem dX3_isSame_237 : decode cX3_isSame 237 = .ok (.if_icmp .eq 5, 3) := by decide +kernel
theorem dX3_isSame_240 : decode cX3_isSame 240 = .ok (.iconst 0, 1) := by decide +kernel
theorem dX3_isSame_241 : decode cX3_isSame 241 = .ok (.ireturn, 1) := by decide +kernel
theorem dX3_isSame_242 : decode cX3_isSame 242 = .ok (.iload_n 2, 1) := by decide +kernel
theorem dX3_isSame_243 : decode cX3_isSame 243 = .ok (.aload 7, 2) := by decide +kernel
theorem dX3_isSame_245 : decode cX3_isSame 245 = .ok (.getfield 73, 3) := by decide +kernel
theorem dX3_isSame_248 : decode cX3_isSame 248 = .ok (.iadd, 1) := by decide +kernel
theorem dX3_isSame_249 : decode cX3_isSame 249 = .ok (.istore_n 2, 1) := by decide +kernel
theorem dX3_isSame_250 : decode cX3_isSame 250 = .ok (.iload_n 3, 1) := by decide +kernel
theorem dX3_isSame_251 : decode cX3_isSame 251 = .ok (.aload 7, 2) := by decide +kernel
theorem dX3_isSame_253 : decode cX3_isSame 253 = .ok (.getfield 32, 3) := by decide +kernel
theorem dX3_isSame_256 : decode cX3_isSame 256 = .ok (.iadd, 1) := by decide +kernel
theorem dX3_isSame_257 : decode cX3_isSame 257 = .ok (.istore_n 3, 1) := by decide +kernel
theorem dX3_isSame_258 : decode cX3_isSame 258 = .ok (.iload 4, 2) := by decide +kernel
theorem dX3_isSame_260 : decode cX3_isSame 260 = .ok (.aload 7, 2) := by decide +kernel
theorem dX3_isSame_262 : decode cX3_isSame 262 = .ok (.aload_n 0, 1) := by decide +kernel
theorem dX3_isSame_263 : decode cX3_isSame 263 = .ok (.getfield 20, 3) := by decide +kernel
theorem dX3_isSame_266 : decode cX3_isSame 266 = .ok (.invokevirtual 42, 3) := by decide +kernel
theorem dX3_isSame_269 : decode cX3_isSame 269 = .ok (.ifCond .ne 7, 3) := by decide +kernel
theorem dX3_isSame_272 : decode cX3_isSame 272 = .ok (.iconst 1, 1) := by decide +kernel
theorem dX3_isSame_273 : decode cX3_isSame 273 = .ok (.goto 4, 3) := by decide +kernel
theorem dX3_isSame_276 : decode cX3_isSame 276 = .ok (.iconst 0, 1) := by decide +kernel
theorem dX3_isSame_277 : decode cX3_isSame 277 = .ok (.iadd, 1) := by decide +kernel
theorem dX3_isSame_278 : decode cX3_isSame 278 = .ok (.istore 4, 2) := by decide +kernel
theorem dX3_isSame_280 : decode cX3_isSame 280 = .ok (.iload 5, 2) := by decide +kernel
theorem dX3_isSame_282 : decode cX3_isSame 282 = .ok (.aload 7, 2) := by decide +kernel
theorem dX3_isSame_284 : decode cX3_isSame 284 = .ok (.getfield 38, 3) := by decide +kernel
theorem dX3_isSame_287 : decode cX3_isSame 287 = .ok (.ifCond .eq 11, 3) := by decide +kernel
theorem dX3_isSame_290 : decode cX3_isSame 290 = .ok (.aload 8, 2) := by decide +kernel
theorem dX3_isSame_292 : decode cX3_isSame 292 = .ok (.bipush 6, 2) := by decide +kernel
theorem dX3_isSame_294 : decode cX3_isSame 294 = .ok (.iaload, 1) := by decide +kernel
theorem dX3_isSame_295 : decode cX3_isSame 295 = .ok (.goto 4, 3) := by decide +kernel
theorem dX3_isSame_298 : decode cX3_isSame 298 = .ok (.iconst 0, 1) := by decide +kernel
theorem dX3_isSame_299 : decode cX3_isSame 299 = .ok (.iadd, 1) := by decide +kernel
theorem dX3_isSame_300 : decode cX3_isSame 300 = .ok (.istore 5, 2) := by decide +kernel
theorem dX3_isSame_302 : decode cX3_isSame 302 = .ok (.iinc 6 1, 3) := by decide +kernel
theorem dX3_isSame_305 : decode cX3_isSame 305 = .ok (.goto (-292), 3) := by decide +kernel
theorem dX3_isSame_308 : decode cX3_isSame 308 = .ok (.bipush 8, 2) := by decide +kernel
theorem dX3_isSame_310 : decode cX3_isSame 310 = .ok (.newarray .int, 2) := by decide +kernel
theorem dX3_isSame_312 : decode cX3_isSame 312 = .ok (.dup, 1) := by decide +kernel
theorem dX3_isSame_313 : decode cX3_isSame 313 = .ok (.iconst 0, 1) := by decide +kernel
theorem dX3_isSame_314 : decode cX3_isSame 314 = .ok (.aload_n 0, 1) := by decide +kernel
theorem dX3_isSame_315 : decode cX3_isSame 315 = .ok (.getfield 20, 3) := by decide +kernel
theorem dX3_isSame_318 : decode cX3_isSame 318 = .ok (.iastore, 1) := by decide +kernel
theorem dX3_isSame_319 : decode cX3_isSame 319 = .ok (.dup, 1) := by decide +kernel
theorem dX3_isSame_320 : decode cX3_isSame 320 = .ok (.iconst 1, 1) := by decide +kernel
theorem dX3_isSame_321 : decode cX3_isSame 321 = .ok (.aload_n 0, 1) := by decide +kernel
theorem dX3_isSame_322 : decode cX3_isSame 322 = .ok (.getfield 20, 3) := by decide +kernel
theorem dX3_isSame_325 : decode cX3_isSame 325 = .ok (.sipush 720, 3) := by decide +kernel
theorem dX3_isSame_328 : decode cX3_isSame 328 = .ok (.irem, 1) := by decide +kernel
theorem dX3_isSame_329 : decode cX3_isSame 329 = .ok (.iastore, 1) := by decide +kernel
theorem dX3_isSame_330 : decode cX3_isSame 330 = .ok (.dup, 1) := by decide +kernel
theorem dX3_isSame_331 : decode cX3_isSame 331 = .ok (.iconst 2, 1) := by decide +kernel
theorem dX3_isSame_332 : decode cX3_isSame 332 = .ok (.aload_n 0, 1) := by decide +kernel
theorem dX3_isSame_333 : decode cX3_isSame 333 = .ok (.getfield 9, 3) := by decide +kernel
theorem dX3_isSame_336 : decode cX3_isSame 336 = .ok (.arraylength, 1) := by decide +kernel
theorem dX3_isSame_337 : decode cX3_isSame 337 = .ok (.iastore, 1) := by decide +kernel
theorem dX3_isSame_338 : decode cX3_isSame 338 = .ok (.dup, 1) := by decide +kernel
theorem dX3_isSame_339 : decode cX3_isSame 339 = .ok (.iconst 3, 1) := by decide +kernel
theorem dX3_isSame_340 : decode cX3_isSame 340 = .ok (.aload_n 0, 1) := by decide +kernel
theorem dX3_isSame_341 : decode cX3_isSame 341 = .ok (.invokevirtual 89, 3) := by decide +kernel
theorem dX3_isSame_344 : decode cX3_isSame 344 = .ok (.iastore, 1) := by decide +kernel
theorem dX3_isSame_345 : decode cX3_isSame 345 = .ok (.dup, 1) := by decide +kernel
theorem dX3_isSame_346 : decode cX3_isSame 346 = .ok (.iconst 4, 1) := by decide +kernel
theorem dX3_isSame_347 : decode cX3_isSame 347 = .ok (.iload_n 2, 1) := by decide +kernel
theorem dX3_isSame_348 : decode cX3_isSame 348 = .ok (.iastore, 1) := by decide +kernel
theorem dX3_isSame_349 : decode cX3_isSame 349 = .ok (.dup, 1) := by decide +kernel
theorem dX3_isSame_350 : decode cX3_isSame 350 = .ok (.iconst 5, 1) := by decide +kernel
theorem dX3_isSame_351 : decode cX3_isSame 351 = .ok (.iload_n 3, 1) := by decide +kernel
theorem dX3_isSame_352 : decode cX3_isSame 352 = .ok (.iastore, 1) := by decide +kernel
theorem dX3_isSame_353 : decode cX3_isSame 353 = .ok (.dup, 1) := by decide +kernel
theorem dX3_isSame_354 : decode cX3_isSame 354 = .ok (.bipush 6, 2) := by decide +kernel
theorem dX3_isSame_356 : decode cX3_isSame 356 = .ok (.iload 4, 2) := by decide +kernel
theorem dX3_isSame_358 : decode cX3_isSame 358 = .ok (.iastore, 1) := by decide +kernel
theorem dX3_isSame_359 : decode cX3_isSame 359 = .ok (.dup, 1) := by decide +kernel
theorem dX3_isSame_360 : decode cX3_isSame 360 = .ok (.bipush 7, 2) := by decide +kernel
theorem dX3_isSame_362 : decode cX3_isSame 362 = .ok (.aload_n 0, 1) := by decide +kernel
theorem dX3_isSame_363 : decode cX3_isSame 363 = .ok (.invokevirtual 93, 3) := by decide +kernel
theorem dX3_isSame_366 : decode cX3_isSame 366 = .ok (.iastore, 1) := by decide +kernel
theorem dX3_isSame_367 : decode cX3_isSame 367 = .ok (.astore 6, 2) := by decide +kernel
theorem dX3_isSame_369 : decode cX3_isSame 369 = .ok (.iconst 0, 1) := by decide +kernel
theorem dX3_isSame_370 : decode cX3_isSame 370 = .ok (.istore 7, 2) := by decide +kernel
theorem dX3_isSame_372 : decode cX3_isSame 372 = .ok (.iload 7, 2) := by decide +kernel
theorem dX3_isSame_374 : decode cX3_isSame 374 = .ok (.bipush 8, 2) := by decide +kernel
theorem dX3_isSame_376 : decode cX3_isSame 376 = .ok (.if_icmp .ge 25, 3) := by decide +kernel
theorem dX3_isSame_379 : decode cX3_isSame 379 = .ok (.aload_n 1, 1) := by decide +kernel
theorem dX3_isSame_380 : decode cX3_isSame 380 = .ok (.iload 7, 2) := by decide +kernel
theorem dX3_isSame_382 : decode cX3_isSame 382 = .ok (.invokevirtual 95, 3) := by decide +kernel
theorem dX3_isSame_385 : decode cX3_isSame 385 = .ok (.aload 6, 2) := by decide +kernel
theorem dX3_isSame_387 : decode cX3_isSame 387 = .ok (.iload 7, 2) := by decide +kernel
theorem dX3_isSame_389 : decode cX3_isSame 389 = .ok (.iaload, 1) := by decide +kernel
theorem dX3_isSame_390 : decode cX3_isSame 390 = .ok (.if_icmp .eq 5, 3) := by decide +kernel
theorem dX3_isSame_393 : decode cX3_isSame 393 = .ok (.iconst 0, 1) := by decide +kernel
theorem dX3_isSame_394 : decode cX3_isSame 394 = .ok (.ireturn, 1) := by decide +kernel
theorem dX3_isSame_395 : decode cX3_isSame 395 = .ok (.iinc 7 1, 3) := by decide +kernel
theorem dX3_isSame_398 : decode cX3_isSame 398 = .ok (.goto (-26), 3) := by decide +kernel
theorem dX3_isSame_401 : decode cX3_isSame 401 = .ok (.aload_n 1, 1) := by decide +kernel
theorem dX3_isSame_402 : decode cX3_isSame 402 = .ok (.invokevirtual 98, 3) := by decide +kernel
theorem dX3_isSame_405 : decode cX3_isSame 405 = .ok (.aload_n 0, 1) := by decide +kernel
theorem dX3_isSame_406 : decode cX3_isSame 406 = .ok (.invokevirtual 89, 3) := by decide +kernel
theorem dX3_isSame_409 : decode cX3_isSame 409 = .ok (.ifCond .ne 7, 3) := by decide +kernel
theorem dX3_isSame_412 : decode cX3_isSame 412 = .ok (.dconst 0, 1) := by decide +kernel
theorem dX3_isSame_413 : decode cX3_isSame 413 = .ok (.goto 12, 3) := by decide +kernel
theorem dX3_isSame_416 : decode cX3_isSame 416 = .ok (.iload 5, 2) := by decide +kernel
theorem dX3_isSame_418 : decode cX3_isSame 418 = .ok (.i2d, 1) := by decide +kernel
theorem dX3_isSame_419 : decode cX3_isSame 419 = .ok (.aload_n 0, 1) := by decide +kernel
theorem dX3_isSame_420 : decode cX3_isSame 420 = .ok (.invokevirtual 89, 3) := by decide +kernel
theorem dX3_isSame_423 : decode cX3_isSame 423 = .ok (.i2d, 1) := by decide +kernel
theorem dX3_isSame_424 : decode cX3_isSame 424 = .ok (.ddiv, 1) := by decide +kernel
theorem dX3_isSame_425 : decode cX3_isSame 425 = .ok (.dcmp .l, 1) := by decide +kernel
theorem dX3_isSame_426 : decode cX3_isSame 426 = .ok (.ifCond .ne 7, 3) := by decide +kernel
theorem dX3_isSame_429 : decode cX3_isSame 429 = .ok (.iconst 1, 1) := by decide +kernel
theorem dX3_isSame_430 : decode cX3_isSame 430 = .ok (.goto 4, 3) := by decide +kernel
theorem dX3_isSame_433 : decode cX3_isSame 433 = .ok (.iconst 0, 1) := by decide +kernel
theorem dX3_isSame_434 : decode cX3_isSame 434 = .ok (.ireturn, 1) := by decide +kernel
end
section
theorem dJ9_floorMod_7cf53_0 : decode cJ9_floorMod_7cf53 0 = .ok (.iload_n 0, 1) := by decide +kernel
theorem dJ9_floorMod_7cf53_1 : decode cJ9_floorMod_7cf53 1 = .ok (.iload_n 1, 1) := by decide +kernel
theorem dJ9_floorMod_7cf53_2 : decode cJ9_floorMod_7cf53 2 = .ok (.irem, 1) := by decide +kernel
theorem dJ9_floorMod_7cf53_3 : decode cJ9_floorMod_7cf53 3 = .ok (.istore_n 2, 1) := by decide +kernel
theorem dJ9_floorMod_7cf53_4 : decode cJ9_floorMod_7cf53 4 = .ok (.iload_n 0, 1) := by decide +kernel
theorem dJ9_floorMod_7cf53_5 : decode cJ9_floorMod_7cf53 5 = .ok (.iload_n 1, 1) := by decide +kernel
theorem dJ9_floorMod_7cf53_6 : decode cJ9_floorMod_7cf53 6 = .ok (.ixor, 1) := by decide +kernel
theorem dJ9_floorMod_7cf53_7 : decode cJ9_floorMod_7cf53 7 = .ok (.ifCond .ge 11, 3) := by decide +kernel
theorem dJ9_floorMod_7cf53_10 : decode cJ9_floorMod_7cf53 10 = .ok (.iload_n 2, 1) := by decide +kernel
theorem dJ9_floorMod_7cf53_11 : decode cJ9_floorMod_7cf53 11 = .ok (.ifCond .eq 7, 3) := by decide +kernel
theorem dJ9_floorMod_7cf53_14 : decode cJ9_floorMod_7cf53 14 = .ok (.iload_n 2, 1) := by decide +kernel
theorem dJ9_floorMod_7cf53_15 : decode cJ9_floorMod_7cf53 15 = .ok (.iload_n 1, 1) := by decide +kernel
theorem dJ9_floorMod_7cf53_16 : decode cJ9_floorMod_7cf53 16 = .ok (.iadd, 1) := by decide +kernel
theorem dJ9_floorMod_7cf53_17 : decode cJ9_floorMod_7cf53 17 = .ok (.ireturn, 1) := by decide +kernel
theorem dJ9_floorMod_7cf53_18 : decode cJ9_floorMod_7cf53 18 = .ok (.iload_n 2, 1) := by decide +kernel
theorem dJ9_floorMod_7cf53_19 : decode cJ9_floorMod_7cf53 19 = .ok (.ireturn, 1) := by decide +kernel
theorem dJ9_abs_0f7a4_0 : decode cJ9_abs_0f7a4 0 = .ok (.iload_n 0, 1) := by decide +kernel
theorem dJ9_abs_0f7a4_1 : decode cJ9_abs_0f7a4 1 = .ok (.ifCond .ge 8, 3) := by decide +kernel
theorem dJ9_abs_0f7a4_4 : decode cJ9_abs_0f7a4 4 = .ok (.iload_n 0, 1) := by decide +kernel
theorem dJ9_abs_0f7a4_5 : decode cJ9_abs_0f7a4 5 = .ok (.ineg, 1) := by decide +kernel
theorem dJ9_abs_0f7a4_6 : decode cJ9_abs_0f7a4 6 = .ok (.goto 4, 3) := by decide +kernel
theorem dJ9_abs_0f7a4_9 : decode cJ9_abs_0f7a4 9 = .ok (.iload_n 0, 1) := by decide +kernel
theorem dJ9_abs_0f7a4_10 : decode cJ9_abs_0f7a4 10 = .ok (.ireturn, 1) := by decide +kernel
theorem dJ9_max_7cf53_0 : decode cJ9_max_7cf53 0 = .ok (.iload_n 0, 1) := by decide +kernel
theorem dJ9_max_7cf53_1 : decode cJ9_max_7cf53 1 = .ok (.iload_n 1, 1) := by decide +kernel
theorem dJ9_max_7cf53_2 : decode cJ9_max_7cf53 2 = .ok (.if_icmp .lt 7, 3) := by decide +kernel
theorem dJ9_max_7cf53_5 : decode cJ9_max_7cf53 5 = .ok (.iload_n 0, 1) := by decide +kernel
theorem dJ9_max_7cf53_6 : decode cJ9_max_7cf53 6 = .ok (.goto 4, 3) := by decide +kernel
theorem dJ9_max_7cf53_9 : decode cJ9_max_7cf53 9 = .ok (.iload_n 1, 1) := by decide +kernel
theorem dJ9_max_7cf53_10 : decode cJ9_max_7cf53 10 = .ok (.ireturn, 1) := by decide +kernel
theorem dJ9_min_7cf53_0 : decode cJ9_min_7cf53 0 = .ok (.iload_n 0, 1) := by decide +kernel
theorem dJ9_min_7cf53_1 : decode cJ9_min_7cf53 1 = .ok (.iload_n 1, 1) := by decide +kernel
theorem dJ9_min_7cf53_2 : decode cJ9_min_7cf53 2 = .ok (.if_icmp .gt 7, 3) := by decide +kernel
theorem dJ9_min_7cf53_5 : decode cJ9_min_7cf53 5 = .ok (.iload_n 0, 1) := by decide +kernel
theorem dJ9_min_7cf53_6 : decode cJ9_min_7cf53 6 = .ok (.goto 4, 3) := by decide +kernel
theorem dJ9_min_7cf53_9 : decode cJ9_min_7cf53 9 = .ok (.iload_n 1, 1) := by decide +kernel
theorem dJ9_min_7cf53_10 : decode cJ9_min_7cf53 10 = .ok (.ireturn, 1) := by decide +kernel
theorem dL_below_0 : decode cL_below 0 = .ok (.iload_n 0, 1) := by decide +kernel
theorem dL_below_1 : decode cL_below 1 = .ok (.ldc 7, 2) := by decide +kernel
theorem dL_below_3 : decode cL_below 3 = .ok (.iand, 1) := by decide +kernel
theorem dL_below_4 : decode cL_below 4 = .ok (.iload_n 1, 1) := by decide +kernel
theorem dL_below_5 : decode cL_below 5 = .ok (.irem, 1) := by decide +kernel
theorem dL_below_6 : decode cL_below 6 = .ok (.ireturn, 1) := by decide +kernel
theorem dL_cell_0 : decode cL_cell 0 = .ok (.iload_n 1, 1) := by decide +kernel
theorem dL_cell_1 : decode cL_cell 1 = .ok (.aload_n 0, 1) := by decide +kernel
theorem dL_cell_2 : decode cL_cell 2 = .ok (.arraylength, 1) := by decide +kernel
theorem dL_cell_3 : decode cL_cell 3 = .ok (.if_icmp .ge 9, 3) := by decide +kernel
theorem dL_cell_6 : decode cL_cell 6 = .ok (.aload_n 0, 1) := by decide +kernel
theorem dL_cell_7 : decode cL_cell 7 = .ok (.iload_n 1, 1) := by decide +kernel
theorem dL_cell_8 : decode cL_cell 8 = .ok (.iaload, 1) := by decide +kernel
theorem dL_cell_9 : decode cL_cell 9 = .ok (.goto 9, 3) := by decide +kernel
theorem dL_cell_12 : decode cL_cell 12 = .ok (.ldc 8, 2) := by decide +kernel
theorem dL_cell_14 : decode cL_cell 14 = .ok (.iload_n 1, 1) := by decide +kernel
theorem dL_cell_15 : decode cL_cell 15 = .ok (.iconst 3, 1) := by decide +kernel
theorem dL_cell_16 : decode cL_cell 16 = .ok (.iadd, 1) := by decide +kernel
theorem dL_cell_17 : decode cL_cell 17 = .ok (.imul, 1) := by decide +kernel
theorem dL_cell_18 : decode cL_cell 18 = .ok (.ireturn, 1) := by decide +kernel
set_option maxRecDepth 20000 in
theorem ggL_act_L_below : GoodIn wsL_act wsL_below := goodIn_r _ [17, 18] (by decide +kernel) (by decide +kernel)
set_option maxRecDepth 20000 in
theorem gL_act_L_below : GoodIn wsL_act (va_wsS RL 15 yL_below wsL_below) := goodIn_app (goodIn_of _ (by decide +kernel)) ggL_act_L_below
set_option maxRecDepth 20000 in
theorem ggL_act_X3_come : GoodIn wsL_act wsX3_come := goodIn_r _ [23, 24, 25, 26, 27, 28, 29, 30, 31, 32, 33, 34, 35, 36, 37, 38, 39, 40, 145, 146, 147, 148, 149, 150, 151, 152, 153, 154, 155, 156, 157, 158, 159, 160] (by decide +kernel) (by decide +kernel)
set_option maxRecDepth 20000 in
theorem gL_act_X3_come : GoodIn wsL_act (wsV RL 21 RX3 yX3_come wsX3_come) := goodIn_app (goodIn_of _ (by decide +kernel)) ggL_act_X3_come
set_option maxRecDepth 20000 in
theorem ggL_act_X1_come : GoodIn wsL_act wsX1_come := goodIn_ca (goodIn_ca (goodIn_r _ [45, 46, 47, 48, 49, 50, 51, 44, 52, 53, 54, 55, 56, 57, 58, 59, 60, 61, 62, 63, 161, 162, 163, 164, 165, 166, 167, 168, 169, 170, 171, 172, 173, 174, 175, 176, 177, 178] (by decide +kernel) (by decide +kernel)) (goodIn_sub (fun _ h => List.mem_cons_of_mem _ (List.mem_append_left _ (List.mem_append_left _ (List.mem_append_right _ h)))) (by decide +kernel))) (goodIn_sub (fun _ h => List.mem_cons_of_mem _ (List.mem_append_left _ (List.mem_append_right _ h))) (by decide +kernel))
set_option maxRecDepth 20000 in
theorem gL_act_X1_come : GoodIn wsL_act (wsV RL 25 RX1 yX1_come wsX1_come) := goodIn_app (goodIn_of _ (by decide +kernel)) ggL_act_X1_come
set_option maxRecDepth 20000 in
theorem ggL_act_X1_gear : GoodIn wsL_act wsX1_gear := goodIn_ca (goodIn_ca (goodIn_r _ [67, 53, 54, 49, 68, 69, 70, 44, 71, 72, 73, 48, 55, 56, 57, 74, 59, 75, 76, 77, 78, 79, 80, 81, 82, 83, 84, 85, 86, 87, 161, 162, 163, 164, 165, 166, 167, 168, 169, 170, 171, 172, 173, 174, 175, 176, 177, 178] (by decide +kernel) (by decide +kernel)) (goodIn_sub (fun _ h => List.mem_cons_of_mem _ (List.mem_append_left _ (List.mem_append_right _ h))) (by decide +kernel))) (goodIn_sub (fun _ h => List.mem_cons_of_mem _ (List.mem_append_right _ h)) (by decide +kernel))
set_option maxRecDepth 20000 in
theorem gL_act_X1_gear : GoodIn wsL_act (wsV RL 42 RX1 yX1_gear wsX1_gear) := goodIn_app (goodIn_of _ (by decide +kernel)) ggL_act_X1_gear
set_option maxRecDepth 20000 in
theorem ggL_act_X2_advance : GoodIn wsL_act wsX2_advance := goodIn_r _ [91, 92, 37, 147, 148, 149, 150, 151, 152, 153, 154, 155, 156, 157, 158, 159, 160] (by decide +kernel) (by decide +kernel)
set_option maxRecDepth 20000 in
theorem gL_act_X2_advance : GoodIn wsL_act (wsV RL 46 RX2 yX2_advance wsX2_advance) := goodIn_app (goodIn_of _ (by decide +kernel)) ggL_act_X2_advance
set_option maxRecDepth 20000 in
theorem ggL_act_X2_off : GoodIn wsL_act wsX2_off := goodIn_r _ [96, 97, 147, 148, 149, 150, 151, 152, 153, 154, 155, 156, 157, 158, 159, 160] (by decide +kernel) (by decide +kernel)
set_option maxRecDepth 20000 in
theorem gL_act_X2_off : GoodIn wsL_act (wsV RL 52 RX2 yX2_off wsX2_off) := goodIn_app (goodIn_of _ (by decide +kernel)) ggL_act_X2_off
set_option maxRecDepth 20000 in
theorem ggL_act_X1_set : GoodIn wsL_act wsX1_set := goodIn_ca (goodIn_ca (goodIn_r _ [101, 49, 102, 68, 69, 70, 44, 71, 72, 73, 48, 50, 51, 52, 53, 54, 55, 56, 57, 103, 104, 105, 106, 107, 108, 109, 110, 111, 112, 58, 59, 60, 61, 62, 63, 161, 162, 163, 164, 165, 166, 167, 168, 169, 170, 171, 172, 173, 174, 175, 176, 177, 178] (by decide +kernel) (by decide +kernel)) (goodIn_sub (fun _ h => List.mem_cons_of_mem _ (List.mem_append_right _ h)) (by decide +kernel))) (goodIn_sub (fun _ h => List.mem_cons_of_mem _ (List.mem_append_left _ (List.mem_append_right _ h))) (by decide +kernel))
set_option maxRecDepth 20000 in
theorem gL_act_X1_set : GoodIn wsL_act (wsV RL 61 RX1 yX1_set wsX1_set) := goodIn_app (goodIn_of _ (by decide +kernel)) ggL_act_X1_set
set_option maxRecDepth 20000 in
theorem ggL_act_X1_wind : GoodIn wsL_act wsX1_wind := goodIn_ca (goodIn_r _ [116, 49, 68, 69, 70, 44, 71, 72, 73, 48, 117, 59, 118, 119, 120, 121, 161, 162, 163, 164, 165, 166, 167, 168, 169, 170, 171, 172, 173, 174, 175, 176, 177, 178] (by decide +kernel) (by decide +kernel)) (goodIn_sub (fun _ h => List.mem_cons_of_mem _ (List.mem_append_right _ h)) (by decide +kernel))
set_option maxRecDepth 20000 in
theorem gL_act_X1_wind : GoodIn wsL_act (wsV RL 71 RX1 yX1_wind wsX1_wind) := goodIn_app (goodIn_of _ (by decide +kernel)) ggL_act_X1_wind
set_option maxRecDepth 20000 in
theorem ggL_act_X1_mend : GoodIn wsL_act wsX1_mend := goodIn_ca (goodIn_ca (goodIn_r _ [125, 53, 54, 49, 68, 69, 70, 44, 71, 72, 73, 48, 126, 59, 127, 128, 87, 129, 130, 131, 132, 133, 134, 135, 121, 120, 161, 162, 163, 164, 165, 166, 167, 168, 169, 170, 171, 172, 173, 174, 175, 176, 177, 178] (by decide +kernel) (by decide +kernel)) (goodIn_sub (fun _ h => List.mem_cons_of_mem _ (List.mem_append_left _ (List.mem_append_right _ h))) (by decide +kernel))) (goodIn_sub (fun _ h => List.mem_cons_of_mem _ (List.mem_append_right _ h)) (by decide +kernel))
set_option maxRecDepth 20000 in
theorem gL_act_X1_mend : GoodIn wsL_act (wsV RL 74 RX1 yX1_mend wsX1_mend) := goodIn_app (goodIn_of _ (by decide +kernel)) ggL_act_X1_mend
set_option maxRecDepth 20000 in
theorem ggL_act_X1_shut : GoodIn wsL_act wsX1_shut := goodIn_ca (goodIn_ca (goodIn_r _ [139, 53, 54, 49, 68, 69, 70, 44, 71, 72, 73, 48, 50, 51, 52, 55, 56, 57, 140, 59, 141, 142, 143, 144, 161, 162, 163, 164, 165, 166, 167, 168, 169, 170, 171, 172, 173, 174, 175, 176, 177, 178] (by decide +kernel) (by decide +kernel)) (goodIn_sub (fun _ h => List.mem_cons_of_mem _ (List.mem_append_left _ (List.mem_append_right _ h))) (by decide +kernel))) (goodIn_sub (fun _ h => List.mem_cons_of_mem _ (List.mem_append_right _ h)) (by decide +kernel))
set_option maxRecDepth 20000 in
theorem gL_act_X1_shut : GoodIn wsL_act (wsV RL 89 RX1 yX1_shut wsX1_shut) := goodIn_app (goodIn_of _ (by decide +kernel)) ggL_act_X1_shut
theorem dL_act_0 : decode cL_act 0 = .ok (.aload_n 1, 1) := by decide +kernel
theorem dL_act_1 : decode cL_act 1 = .ok (.getfield 9, 3) := by decide +kernel
theorem dL_act_4 : decode cL_act 4 = .ok (.arraylength, 1) := by decide +kernel
theorem dL_act_5 : decode cL_act 5 = .ok (.istore_n 3, 1) := by decide +kernel
theorem dL_act_6 : decode cL_act 6 = .ok (.iload_n 3, 1) := by decide +kernel
theorem dL_act_7 : decode cL_act 7 = .ok (.ifCond .ne 7, 3) := by decide +kernel
theorem dL_act_10 : decode cL_act 10 = .ok (.iconst 0, 1) := by decide +kernel
theorem dL_act_11 : decode cL_act 11 = .ok (.goto 8, 3) := by decide +kernel
theorem dL_act_14 : decode cL_act 14 = .ok (.iload_n 2, 1) := by decide +kernel
theorem dL_act_15 : decode cL_act 15 = .ok (.iload_n 3, 1) := by decide +kernel
theorem dL_act_16 : decode cL_act 16 = .ok (.invokestatic 15, 3) := by decide +kernel
theorem dL_act_19 : decode cL_act 19 = .ok (.istore 4, 2) := by decide +kernel
theorem dL_act_21 : decode cL_act 21 = .ok (.iload_n 3, 1) := by decide +kernel
theorem dL_act_22 : decode cL_act 22 = .ok (.ifCond .ne 7, 3) := by decide +kernel
theorem dL_act_25 : decode cL_act 25 = .ok (.aconst_null, 1) := by decide +kernel
theorem dL_act_26 : decode cL_act 26 = .ok (.goto 10, 3) := by decide +kernel
theorem dL_act_29 : decode cL_act 29 = .ok (.aload_n 1, 1) := by decide +kernel
theorem dL_act_30 : decode cL_act 30 = .ok (.getfield 9, 3) := by decide +kernel
theorem dL_act_33 : decode cL_act 33 = .ok (.iload 4, 2) := by decide +kernel
theorem dL_act_35 : decode cL_act 35 = .ok (.aaload, 1) := by decide +kernel
theorem dL_act_36 : decode cL_act 36 = .ok (.astore 5, 2) := by decide +kernel
theorem dL_act_38 : decode cL_act 38 = .ok (.iload_n 3, 1) := by decide +kernel
theorem dL_act_39 : decode cL_act 39 = .ok (.ifCond .ne 7, 3) := by decide +kernel
theorem dL_act_42 : decode cL_act 42 = .ok (.iconst 0, 1) := by decide +kernel
theorem dL_act_43 : decode cL_act 43 = .ok (.goto 12, 3) := by decide +kernel
theorem dL_act_46 : decode cL_act 46 = .ok (.iload_n 2, 1) := by decide +kernel
theorem dL_act_47 : decode cL_act 47 = .ok (.bipush 9, 2) := by decide +kernel
theorem dL_act_49 : decode cL_act 49 = .ok (.ishr, 1) := by decide +kernel
theorem dL_act_50 : decode cL_act 50 = .ok (.bipush 8, 2) := by decide +kernel
theorem dL_act_52 : decode cL_act 52 = .ok (.invokestatic 15, 3) := by decide +kernel
theorem dL_act_55 : decode cL_act 55 = .ok (.tableswitch 424 0 5 #[37, 79, 79, 191, 245, 287], 37) := by decide +kernel
theorem dL_act_92 : decode cL_act 92 = .ok (.iload_n 3, 1) := by decide +kernel
theorem dL_act_93 : decode cL_act 93 = .ok (.bipush 10, 2) := by decide +kernel
theorem dL_act_95 : decode cL_act 95 = .ok (.if_icmp .ne 5, 3) := by decide +kernel
theorem dL_act_98 : decode cL_act 98 = .ok (.iconst 1, 1) := by decide +kernel
theorem dL_act_99 : decode cL_act 99 = .ok (.ireturn, 1) := by decide +kernel
theorem dL_act_100 : decode cL_act 100 = .ok (.iload_n 2, 1) := by decide +kernel
theorem dL_act_101 : decode cL_act 101 = .ok (.iconst 3, 1) := by decide +kernel
theorem dL_act_102 : decode cL_act 102 = .ok (.imul, 1) := by decide +kernel
theorem dL_act_103 : decode cL_act 103 = .ok (.sipush 720, 3) := by decide +kernel
theorem dL_act_106 : decode cL_act 106 = .ok (.invokestatic 15, 3) := by decide +kernel
theorem dL_act_109 : decode cL_act 109 = .ok (.istore 6, 2) := by decide +kernel
theorem dL_act_111 : decode cL_act 111 = .ok (.aload_n 1, 1) := by decide +kernel
theorem dL_act_112 : decode cL_act 112 = .ok (.iload 6, 2) := by decide +kernel
theorem dL_act_114 : decode cL_act 114 = .ok (.invokevirtual 21, 3) := by decide +kernel
theorem dL_act_117 : decode cL_act 117 = .ok (.pop, 1) := by decide +kernel
theorem dL_act_118 : decode cL_act 118 = .ok (.aload_n 0, 1) := by decide +kernel
theorem dL_act_119 : decode cL_act 119 = .ok (.iload 6, 2) := by decide +kernel
theorem dL_act_121 : decode cL_act 121 = .ok (.invokevirtual 25, 3) := by decide +kernel
theorem dL_act_124 : decode cL_act 124 = .ok (.iload_n 3, 1) := by decide +kernel
theorem dL_act_125 : decode cL_act 125 = .ok (.if_icmp .ne 7, 3) := by decide +kernel
theorem dL_act_128 : decode cL_act 128 = .ok (.iconst 1, 1) := by decide +kernel
theorem dL_act_129 : decode cL_act 129 = .ok (.goto 4, 3) := by decide +kernel
theorem dL_act_132 : decode cL_act 132 = .ok (.iconst 0, 1) := by decide +kernel
theorem dL_act_133 : decode cL_act 133 = .ok (.ireturn, 1) := by decide +kernel
theorem dL_act_134 : decode cL_act 134 = .ok (.aload 5, 2) := by decide +kernel
theorem dL_act_136 : decode cL_act 136 = .ok (.bipush 20, 2) := by decide +kernel
theorem dL_act_138 : decode cL_act 138 = .ok (.iload_n 2, 1) := by decide +kernel
theorem dL_act_139 : decode cL_act 139 = .ok (.iconst 2, 1) := by decide +kernel
theorem dL_act_140 : decode cL_act 140 = .ok (.ishr, 1) := by decide +kernel
theorem dL_act_141 : decode cL_act 141 = .ok (.bipush 21, 2) := by decide +kernel
theorem dL_act_143 : decode cL_act 143 = .ok (.invokestatic 15, 3) := by decide +kernel
theorem dL_act_146 : decode cL_act 146 = .ok (.iadd, 1) := by decide +kernel
theorem dL_act_147 : decode cL_act 147 = .ok (.putfield 30, 3) := by decide +kernel
theorem dL_act_150 : decode cL_act 150 = .ok (.aload 5, 2) := by decide +kernel
theorem dL_act_152 : decode cL_act 152 = .ok (.iload_n 2, 1) := by decide +kernel
theorem dL_act_153 : decode cL_act 153 = .ok (.bipush 7, 2) := by decide +kernel
theorem dL_act_155 : decode cL_act 155 = .ok (.ishr, 1) := by decide +kernel
theorem dL_act_156 : decode cL_act 156 = .ok (.iconst 3, 1) := by decide +kernel
theorem dL_act_157 : decode cL_act 157 = .ok (.invokestatic 15, 3) := by decide +kernel
theorem dL_act_160 : decode cL_act 160 = .ok (.ifCond .ne 11, 3) := by decide +kernel
theorem dL_act_163 : decode cL_act 163 = .ok (.aload 5, 2) := by decide +kernel
theorem dL_act_165 : decode cL_act 165 = .ok (.getfield 30, 3) := by decide +kernel
theorem dL_act_168 : decode cL_act 168 = .ok (.goto 14, 3) := by decide +kernel
theorem dL_act_171 : decode cL_act 171 = .ok (.bipush 20, 2) := by decide +kernel
theorem dL_act_173 : decode cL_act 173 = .ok (.iload_n 2, 1) := by decide +kernel
theorem dL_act_174 : decode cL_act 174 = .ok (.iconst 4, 1) := by decide +kernel
theorem dL_act_175 : decode cL_act 175 = .ok (.ishr, 1) := by decide +kernel
theorem dL_act_176 : decode cL_act 176 = .ok (.bipush 21, 2) := by decide +kernel
theorem dL_act_178 : decode cL_act 178 = .ok (.invokestatic 15, 3) := by decide +kernel
theorem dL_act_181 : decode cL_act 181 = .ok (.iadd, 1) := by decide +kernel
theorem dL_act_182 : decode cL_act 182 = .ok (.putfield 36, 3) := by decide +kernel
theorem dL_act_185 : decode cL_act 185 = .ok (.aload 5, 2) := by decide +kernel
theorem dL_act_187 : decode cL_act 187 = .ok (.iload_n 2, 1) := by decide +kernel
theorem dL_act_188 : decode cL_act 188 = .ok (.iconst 3, 1) := by decide +kernel
theorem dL_act_189 : decode cL_act 189 = .ok (.ishr, 1) := by decide +kernel
theorem dL_act_190 : decode cL_act 190 = .ok (.bipush 41, 2) := by decide +kernel
theorem dL_act_192 : decode cL_act 192 = .ok (.invokestatic 15, 3) := by decide +kernel
theorem dL_act_195 : decode cL_act 195 = .ok (.bipush 20, 2) := by decide +kernel
theorem dL_act_197 : decode cL_act 197 = .ok (.isub, 1) := by decide +kernel
theorem dL_act_198 : decode cL_act 198 = .ok (.putfield 39, 3) := by decide +kernel
theorem dL_act_201 : decode cL_act 201 = .ok (.aload_n 0, 1) := by decide +kernel
theorem dL_act_202 : decode cL_act 202 = .ok (.iload 4, 2) := by decide +kernel
theorem dL_act_204 : decode cL_act 204 = .ok (.aload 5, 2) := by decide +kernel
theorem dL_act_206 : decode cL_act 206 = .ok (.getfield 30, 3) := by decide +kernel
theorem dL_act_209 : decode cL_act 209 = .ok (.aload 5, 2) := by decide +kernel
theorem dL_act_211 : decode cL_act 211 = .ok (.getfield 36, 3) := by decide +kernel
theorem dL_act_214 : decode cL_act 214 = .ok (.aload 5, 2) := by decide +kernel
theorem dL_act_216 : decode cL_act 216 = .ok (.getfield 39, 3) := by decide +kernel
theorem dL_act_219 : decode cL_act 219 = .ok (.invokevirtual 42, 3) := by decide +kernel
theorem dL_act_222 : decode cL_act 222 = .ok (.aload 5, 2) := by decide +kernel
theorem dL_act_224 : decode cL_act 224 = .ok (.aload 5, 2) := by decide +kernel
theorem dL_act_226 : decode cL_act 226 = .ok (.getfield 30, 3) := by decide +kernel
theorem dL_act_229 : decode cL_act 229 = .ok (.aload 5, 2) := by decide +kernel
theorem dL_act_231 : decode cL_act 231 = .ok (.getfield 36, 3) := by decide +kernel
theorem dL_act_234 : decode cL_act 234 = .ok (.invokevirtual 46, 3) := by decide +kernel
theorem dL_act_237 : decode cL_act 237 = .ok (.if_icmp .ne 7, 3) := by decide +kernel
theorem dL_act_240 : decode cL_act 240 = .ok (.iconst 1, 1) := by decide +kernel
theorem dL_act_241 : decode cL_act 241 = .ok (.goto 4, 3) := by decide +kernel
theorem dL_act_244 : decode cL_act 244 = .ok (.iconst 0, 1) := by decide +kernel
theorem dL_act_245 : decode cL_act 245 = .ok (.ireturn, 1) := by decide +kernel
theorem dL_act_246 : decode cL_act 246 = .ok (.aload 5, 2) := by decide +kernel
theorem dL_act_248 : decode cL_act 248 = .ok (.aload_n 1, 1) := by decide +kernel
theorem dL_act_249 : decode cL_act 249 = .ok (.getfield 49, 3) := by decide +kernel
theorem dL_act_252 : decode cL_act 252 = .ok (.invokevirtual 52, 3) := by decide +kernel
theorem dL_act_255 : decode cL_act 255 = .ok (.istore 7, 2) := by decide +kernel
theorem dL_act_257 : decode cL_act 257 = .ok (.aload 5, 2) := by decide +kernel
theorem dL_act_259 : decode cL_act 259 = .ok (.iload_n 2, 1) := by decide +kernel
theorem dL_act_260 : decode cL_act 260 = .ok (.bipush 7, 2) := by decide +kernel
theorem dL_act_262 : decode cL_act 262 = .ok (.imul, 1) := by decide +kernel
theorem dL_act_263 : decode cL_act 263 = .ok (.sipush 720, 3) := by decide +kernel
theorem dL_act_266 : decode cL_act 266 = .ok (.invokestatic 15, 3) := by decide +kernel
theorem dL_act_269 : decode cL_act 269 = .ok (.putfield 55, 3) := by decide +kernel
theorem dL_act_272 : decode cL_act 272 = .ok (.aload 5, 2) := by decide +kernel
theorem dL_act_274 : decode cL_act 274 = .ok (.iconst 0, 1) := by decide +kernel
theorem dL_act_275 : decode cL_act 275 = .ok (.putfield 58, 3) := by decide +kernel
theorem dL_act_278 : decode cL_act 278 = .ok (.aload_n 0, 1) := by decide +kernel
theorem dL_act_279 : decode cL_act 279 = .ok (.iload 4, 2) := by decide +kernel
theorem dL_act_281 : decode cL_act 281 = .ok (.aload 5, 2) := by decide +kernel
theorem dL_act_283 : decode cL_act 283 = .ok (.getfield 55, 3) := by decide +kernel
theorem dL_act_286 : decode cL_act 286 = .ok (.invokevirtual 61, 3) := by decide +kernel
theorem dL_act_289 : decode cL_act 289 = .ok (.iload 7, 2) := by decide +kernel
theorem dL_act_291 : decode cL_act 291 = .ok (.if_icmp .ne 7, 3) := by decide +kernel
theorem dL_act_294 : decode cL_act 294 = .ok (.iconst 1, 1) := by decide +kernel
theorem dL_act_295 : decode cL_act 295 = .ok (.goto 4, 3) := by decide +kernel
theorem dL_act_298 : decode cL_act 298 = .ok (.iconst 0, 1) := by decide +kernel
theorem dL_act_299 : decode cL_act 299 = .ok (.ireturn, 1) := by decide +kernel
theorem dL_act_300 : decode cL_act 300 = .ok (.sipush 600, 3) := by decide +kernel
theorem dL_act_303 : decode cL_act 303 = .ok (.aload 5, 2) := by decide +kernel
theorem dL_act_305 : decode cL_act 305 = .ok (.getfield 64, 3) := by decide +kernel
theorem dL_act_308 : decode cL_act 308 = .ok (.isub, 1) := by decide +kernel
theorem dL_act_309 : decode cL_act 309 = .ok (.istore 8, 2) := by decide +kernel
theorem dL_act_311 : decode cL_act 311 = .ok (.aload 5, 2) := by decide +kernel
theorem dL_act_313 : decode cL_act 313 = .ok (.sipush 600, 3) := by decide +kernel
theorem dL_act_316 : decode cL_act 316 = .ok (.putfield 64, 3) := by decide +kernel
theorem dL_act_319 : decode cL_act 319 = .ok (.aload 5, 2) := by decide +kernel
theorem dL_act_321 : decode cL_act 321 = .ok (.iconst 1, 1) := by decide +kernel
theorem dL_act_322 : decode cL_act 322 = .ok (.putfield 67, 3) := by decide +kernel
theorem dL_act_325 : decode cL_act 325 = .ok (.aload_n 0, 1) := by decide +kernel
theorem dL_act_326 : decode cL_act 326 = .ok (.iload 4, 2) := by decide +kernel
theorem dL_act_328 : decode cL_act 328 = .ok (.invokevirtual 71, 3) := by decide +kernel
theorem dL_act_331 : decode cL_act 331 = .ok (.iload 8, 2) := by decide +kernel
theorem dL_act_333 : decode cL_act 333 = .ok (.if_icmp .ne 7, 3) := by decide +kernel
theorem dL_act_336 : decode cL_act 336 = .ok (.iconst 1, 1) := by decide +kernel
theorem dL_act_337 : decode cL_act 337 = .ok (.goto 4, 3) := by decide +kernel
theorem dL_act_340 : decode cL_act 340 = .ok (.iconst 0, 1) := by decide +kernel
theorem dL_act_341 : decode cL_act 341 = .ok (.ireturn, 1) := by decide +kernel
theorem dL_act_342 : decode cL_act 342 = .ok (.iload_n 2, 1) := by decide +kernel
theorem dL_act_343 : decode cL_act 343 = .ok (.iconst 4, 1) := by decide +kernel
theorem dL_act_344 : decode cL_act 344 = .ok (.ishr, 1) := by decide +kernel
theorem dL_act_345 : decode cL_act 345 = .ok (.iconst 3, 1) := by decide +kernel
theorem dL_act_346 : decode cL_act 346 = .ok (.invokestatic 15, 3) := by decide +kernel
theorem dL_act_349 : decode cL_act 349 = .ok (.istore 9, 2) := by decide +kernel
theorem dL_act_351 : decode cL_act 351 = .ok (.iload 9, 2) := by decide +kernel
theorem dL_act_353 : decode cL_act 353 = .ok (.iconst 2, 1) := by decide +kernel
theorem dL_act_354 : decode cL_act 354 = .ok (.if_icmp .ne 58, 3) := by decide +kernel
theorem dL_act_357 : decode cL_act 357 = .ok (.aload 5, 2) := by decide +kernel
theorem dL_act_359 : decode cL_act 359 = .ok (.aload 5, 2) := by decide +kernel
theorem dL_act_361 : decode cL_act 361 = .ok (.getfield 67, 3) := by decide +kernel
theorem dL_act_364 : decode cL_act 364 = .ok (.ifCond .ne 15, 3) := by decide +kernel
theorem dL_act_367 : decode cL_act 367 = .ok (.aload 5, 2) := by decide +kernel
theorem dL_act_369 : decode cL_act 369 = .ok (.getfield 64, 3) := by decide +kernel
theorem dL_act_372 : decode cL_act 372 = .ok (.ifCond .le 7, 3) := by decide +kernel
theorem dL_act_375 : decode cL_act 375 = .ok (.iconst 1, 1) := by decide +kernel
theorem dL_act_376 : decode cL_act 376 = .ok (.goto 4, 3) := by decide +kernel
theorem dL_act_379 : decode cL_act 379 = .ok (.iconst 0, 1) := by decide +kernel
theorem dL_act_380 : decode cL_act 380 = .ok (.putfield 67, 3) := by decide +kernel
theorem dL_act_383 : decode cL_act 383 = .ok (.aload_n 0, 1) := by decide +kernel
theorem dL_act_384 : decode cL_act 384 = .ok (.iload 4, 2) := by decide +kernel
theorem dL_act_386 : decode cL_act 386 = .ok (.iconst 2, 1) := by decide +kernel
theorem dL_act_387 : decode cL_act 387 = .ok (.invokevirtual 74, 3) := by decide +kernel
theorem dL_act_390 : decode cL_act 390 = .ok (.aload 5, 2) := by decide +kernel
theorem dL_act_392 : decode cL_act 392 = .ok (.getfield 67, 3) := by decide +kernel
theorem dL_act_395 : decode cL_act 395 = .ok (.ifCond .eq 7, 3) := by decide +kernel
theorem dL_act_398 : decode cL_act 398 = .ok (.iconst 1, 1) := by decide +kernel
theorem dL_act_399 : decode cL_act 399 = .ok (.goto 4, 3) := by decide +kernel
theorem dL_act_402 : decode cL_act 402 = .ok (.iconst 0, 1) := by decide +kernel
theorem dL_act_403 : decode cL_act 403 = .ok (.if_icmp .ne 7, 3) := by decide +kernel
theorem dL_act_406 : decode cL_act 406 = .ok (.iconst 1, 1) := by decide +kernel
theorem dL_act_407 : decode cL_act 407 = .ok (.goto 4, 3) := by decide +kernel
theorem dL_act_410 : decode cL_act 410 = .ok (.iconst 0, 1) := by decide +kernel
theorem dL_act_411 : decode cL_act 411 = .ok (.ireturn, 1) := by decide +kernel
theorem dL_act_412 : decode cL_act 412 = .ok (.iload 9, 2) := by decide +kernel
theorem dL_act_414 : decode cL_act 414 = .ok (.ifCond .ne 14, 3) := by decide +kernel
theorem dL_act_417 : decode cL_act 417 = .ok (.bipush 100, 2) := by decide +kernel
theorem dL_act_419 : decode cL_act 419 = .ok (.aload 5, 2) := by decide +kernel
theorem dL_act_421 : decode cL_act 421 = .ok (.getfield 77, 3) := by decide +kernel
theorem dL_act_424 : decode cL_act 424 = .ok (.isub, 1) := by decide +kernel
theorem dL_act_425 : decode cL_act 425 = .ok (.goto 11, 3) := by decide +kernel
theorem dL_act_428 : decode cL_act 428 = .ok (.bipush 60, 2) := by decide +kernel
theorem dL_act_430 : decode cL_act 430 = .ok (.aload 5, 2) := by decide +kernel
theorem dL_act_432 : decode cL_act 432 = .ok (.getfield 80, 3) := by decide +kernel
theorem dL_act_435 : decode cL_act 435 = .ok (.isub, 1) := by decide +kernel
theorem dL_act_436 : decode cL_act 436 = .ok (.istore 10, 2) := by decide +kernel
theorem dL_act_438 : decode cL_act 438 = .ok (.iload 9, 2) := by decide +kernel
theorem dL_act_440 : decode cL_act 440 = .ok (.ifCond .ne 13, 3) := by decide +kernel
theorem dL_act_443 : decode cL_act 443 = .ok (.aload 5, 2) := by decide +kernel
theorem dL_act_445 : decode cL_act 445 = .ok (.bipush 100, 2) := by decide +kernel
theorem dL_act_447 : decode cL_act 447 = .ok (.putfield 77, 3) := by decide +kernel
theorem dL_act_450 : decode cL_act 450 = .ok (.goto 10, 3) := by decide +kernel
theorem dL_act_453 : decode cL_act 453 = .ok (.aload 5, 2) := by decide +kernel
theorem dL_act_455 : decode cL_act 455 = .ok (.bipush 60, 2) := by decide +kernel
theorem dL_act_457 : decode cL_act 457 = .ok (.putfield 80, 3) := by decide +kernel
theorem dL_act_460 : decode cL_act 460 = .ok (.aload_n 0, 1) := by decide +kernel
theorem dL_act_461 : decode cL_act 461 = .ok (.iload 4, 2) := by decide +kernel
theorem dL_act_463 : decode cL_act 463 = .ok (.iload 9, 2) := by decide +kernel
theorem dL_act_465 : decode cL_act 465 = .ok (.invokevirtual 74, 3) := by decide +kernel
theorem dL_act_468 : decode cL_act 468 = .ok (.iload 10, 2) := by decide +kernel
theorem dL_act_470 : decode cL_act 470 = .ok (.if_icmp .ne 7, 3) := by decide +kernel
theorem dL_act_473 : decode cL_act 473 = .ok (.iconst 1, 1) := by decide +kernel
theorem dL_act_474 : decode cL_act 474 = .ok (.goto 4, 3) := by decide +kernel
theorem dL_act_477 : decode cL_act 477 = .ok (.iconst 0, 1) := by decide +kernel
theorem dL_act_478 : decode cL_act 478 = .ok (.ireturn, 1) := by decide +kernel
theorem dL_act_479 : decode cL_act 479 = .ok (.aload 5, 2) := by decide +kernel
theorem dL_act_481 : decode cL_act 481 = .ok (.getfield 83, 3) := by decide +kernel
theorem dL_act_484 : decode cL_act 484 = .ok (.istore 11, 2) := by decide +kernel
theorem dL_act_486 : decode cL_act 486 = .ok (.aload 5, 2) := by decide +kernel
theorem dL_act_488 : decode cL_act 488 = .ok (.iload_n 2, 1) := by decide +kernel
theorem dL_act_489 : decode cL_act 489 = .ok (.bipush 6, 2) := by decide +kernel
theorem dL_act_491 : decode cL_act 491 = .ok (.ishr, 1) := by decide +kernel
theorem dL_act_492 : decode cL_act 492 = .ok (.iconst 4, 1) := by decide +kernel
theorem dL_act_493 : decode cL_act 493 = .ok (.invokestatic 15, 3) := by decide +kernel
theorem dL_act_496 : decode cL_act 496 = .ok (.ifCond .ne 7, 3) := by decide +kernel
theorem dL_act_499 : decode cL_act 499 = .ok (.iconst (-1), 1) := by decide +kernel
theorem dL_act_500 : decode cL_act 500 = .ok (.goto 12, 3) := by decide +kernel
theorem dL_act_503 : decode cL_act 503 = .ok (.iload_n 2, 1) := by decide +kernel
theorem dL_act_504 : decode cL_act 504 = .ok (.iconst 5, 1) := by decide +kernel
theorem dL_act_505 : decode cL_act 505 = .ok (.imul, 1) := by decide +kernel
theorem dL_act_506 : decode cL_act 506 = .ok (.sipush 720, 3) := by decide +kernel
theorem dL_act_509 : decode cL_act 509 = .ok (.invokestatic 15, 3) := by decide +kernel
theorem dL_act_512 : decode cL_act 512 = .ok (.putfield 83, 3) := by decide +kernel
theorem dL_act_515 : decode cL_act 515 = .ok (.aload 5, 2) := by decide +kernel
theorem dL_act_517 : decode cL_act 517 = .ok (.aload 5, 2) := by decide +kernel
theorem dL_act_519 : decode cL_act 519 = .ok (.getfield 83, 3) := by decide +kernel
theorem dL_act_522 : decode cL_act 522 = .ok (.ifCond .ge 7, 3) := by decide +kernel
theorem dL_act_525 : decode cL_act 525 = .ok (.iconst 0, 1) := by decide +kernel
theorem dL_act_526 : decode cL_act 526 = .ok (.goto 32, 3) := by decide +kernel
theorem dL_act_529 : decode cL_act 529 = .ok (.iload_n 2, 1) := by decide +kernel
theorem dL_act_530 : decode cL_act 530 = .ok (.bipush 8, 2) := by decide +kernel
theorem dL_act_532 : decode cL_act 532 = .ok (.ishr, 1) := by decide +kernel
theorem dL_act_533 : decode cL_act 533 = .ok (.iconst 5, 1) := by decide +kernel
theorem dL_act_534 : decode cL_act 534 = .ok (.invokestatic 15, 3) := by decide +kernel
theorem dL_act_537 : decode cL_act 537 = .ok (.ifCond .ne 11, 3) := by decide +kernel
theorem dL_act_540 : decode cL_act 540 = .ok (.aload 5, 2) := by decide +kernel
theorem dL_act_542 : decode cL_act 542 = .ok (.getfield 83, 3) := by decide +kernel
theorem dL_act_545 : decode cL_act 545 = .ok (.goto 13, 3) := by decide +kernel
theorem dL_act_548 : decode cL_act 548 = .ok (.iload_n 2, 1) := by decide +kernel
theorem dL_act_549 : decode cL_act 549 = .ok (.bipush 11, 2) := by decide +kernel
theorem dL_act_551 : decode cL_act 551 = .ok (.imul, 1) := by decide +kernel
theorem dL_act_552 : decode cL_act 552 = .ok (.sipush 720, 3) := by decide +kernel
theorem dL_act_555 : decode cL_act 555 = .ok (.invokestatic 15, 3) := by decide +kernel
theorem dL_act_558 : decode cL_act 558 = .ok (.putfield 86, 3) := by decide +kernel
theorem dL_act_561 : decode cL_act 561 = .ok (.aload_n 0, 1) := by decide +kernel
theorem dL_act_562 : decode cL_act 562 = .ok (.iload 4, 2) := by decide +kernel
theorem dL_act_564 : decode cL_act 564 = .ok (.aload 5, 2) := by decide +kernel
theorem dL_act_566 : decode cL_act 566 = .ok (.getfield 83, 3) := by decide +kernel
theorem dL_act_569 : decode cL_act 569 = .ok (.aload 5, 2) := by decide +kernel
theorem dL_act_571 : decode cL_act 571 = .ok (.getfield 86, 3) := by decide +kernel
theorem dL_act_574 : decode cL_act 574 = .ok (.invokevirtual 89, 3) := by decide +kernel
theorem dL_act_577 : decode cL_act 577 = .ok (.iload 11, 2) := by decide +kernel
theorem dL_act_579 : decode cL_act 579 = .ok (.if_icmp .ne 7, 3) := by decide +kernel
theorem dL_act_582 : decode cL_act 582 = .ok (.iconst 1, 1) := by decide +kernel
theorem dL_act_583 : decode cL_act 583 = .ok (.goto 4, 3) := by decide +kernel
theorem dL_act_586 : decode cL_act 586 = .ok (.iconst 0, 1) := by decide +kernel
theorem dL_act_587 : decode cL_act 587 = .ok (.ireturn, 1) := by decide +kernel
set_option maxRecDepth 20000 in
theorem ggL_build_X3_init : GoodIn wsL_build wsX3_init := goodIn_r _ [5, 6, 7, 8, 9, 10, 157, 158] (by decide +kernel) (by decide +kernel)
set_option maxRecDepth 20000 in
theorem gL_build_X3_init_n93 : GoodIn wsL_build (wsX3_init) := ggL_build_X3_init
set_option maxRecDepth 20000 in
theorem ggL_build_L_cell : GoodIn wsL_build wsL_cell := goodIn_r _ [14, 15] (by decide +kernel) (by decide +kernel)
set_option maxRecDepth 20000 in
theorem gL_build_L_cell : GoodIn wsL_build (va_wsS RL 94 yL_cell wsL_cell) := goodIn_app (goodIn_of _ (by decide +kernel)) ggL_build_L_cell
set_option maxRecDepth 20000 in
theorem ggL_build_L_act_p0 : GoodIn wsL_build (.code yL_act cL_act 12 (some .boolean) :: wsL_act_r1) := goodIn_r _ [18, 19, 20, 21, 22, 23, 24, 25, 26, 27, 28, 29, 30, 31, 32, 33, 13, 34, 35, 36, 37, 38, 3, 39, 10] (by decide +kernel) (by decide +kernel)
set_option maxRecDepth 20000 in
theorem ggL_build_L_act_p1 : GoodIn wsL_build wsL_act_r2 := goodIn_r _ [9, 40, 41, 42, 43, 44, 45, 7, 8, 46, 47, 48, 49, 50, 51, 52, 53, 54, 55, 56, 57, 58, 59, 60] (by decide +kernel) (by decide +kernel)
set_option maxRecDepth 20000 in
theorem ggL_build_L_act_p2 : GoodIn wsL_build wsL_act_r3 := goodIn_r _ [61, 62, 63, 64, 65, 66, 67, 68, 69, 70, 71, 72, 73, 74, 75, 76, 77, 78, 79, 80, 81, 82, 83, 84] (by decide +kernel) (by decide +kernel)
set_option maxRecDepth 20000 in
theorem ggL_build_L_act_p3 : GoodIn wsL_build wsL_act_r4 := goodIn_r _ [85, 86, 87, 88, 89, 90, 91, 92, 93, 94, 95, 96, 97, 98, 99, 100, 101, 102, 103, 104, 105, 106, 107, 108] (by decide +kernel) (by decide +kernel)
set_option maxRecDepth 20000 in
theorem ggL_build_L_act_p4 : GoodIn wsL_build wsL_act_r5 := goodIn_r _ [109, 110, 111, 112, 113, 114, 115, 116, 117, 118, 119, 120, 121, 122, 123, 124, 125, 126, 127, 128, 129, 130, 131, 132] (by decide +kernel) (by decide +kernel)
set_option maxRecDepth 20000 in
theorem ggL_build_L_act_p5 : GoodIn wsL_build wsL_act_r6 := goodIn_r _ [133, 134, 135, 136, 137, 138, 139, 140, 141, 142, 143, 144, 145, 146, 147, 148, 149, 150, 151, 152, 153, 154, 155, 156] (by decide +kernel) (by decide +kernel)
set_option maxRecDepth 20000 in
theorem ggL_build_L_act_wsX30 : GoodIn wsL_build wsX30 := goodIn_r _ [157, 158] (by decide +kernel) (by decide +kernel)
set_option maxRecDepth 20000 in
theorem ggL_build_L_act_wsX20 : GoodIn wsL_build wsX20 := goodIn_r _ [159, 160, 161, 162, 163, 164, 165, 166, 167, 168, 169, 170, 171, 172] (by decide +kernel) (by decide +kernel)
set_option maxRecDepth 20000 in
theorem ggL_build_L_act_wsX10 : GoodIn wsL_build wsX10 := goodIn_r _ [173, 174, 175, 176] (by decide +kernel) (by decide +kernel)
set_option maxRecDepth 20000 in
theorem ggL_build_L_act_wsX00 : GoodIn wsL_build wsX00 := goodIn_r _ [177, 178, 179, 180, 181, 182, 183, 184, 185, 186, 187, 188, 189, 190] (by decide +kernel) (by decide +kernel)
set_option maxRecDepth 20000 in
theorem ggL_build_L_act : GoodIn wsL_build wsL_act := goodIn_ca (goodIn_ca (goodIn_ca (goodIn_ca (goodIn_ca (goodIn_ca (goodIn_ca (goodIn_ca ggL_build_L_act_p0 (goodIn_app ggL_build_L_act_p1 (goodIn_app ggL_build_L_act_p2 (goodIn_app ggL_build_L_act_p3 (goodIn_app ggL_build_L_act_p4 ggL_build_L_act_p5))))) ggL_build_L_act_wsX30) ggL_build_L_act_wsX20) ggL_build_L_act_wsX10) ggL_build_L_act_wsX00) (goodIn_sub (fun _ h => List.mem_cons_of_mem _ (List.mem_append_left _ (List.mem_append_left _ (List.mem_append_right _ h)))) (by decide +kernel))) (goodIn_sub (fun _ h => List.mem_cons_of_mem _ (List.mem_append_left _ (List.mem_append_right _ h))) (by decide +kernel))) (goodIn_sub (fun _ h => List.mem_cons_of_mem _ (List.mem_append_right _ h)) (by decide +kernel))
set_option maxRecDepth 20000 in
theorem gL_build_L_act : GoodIn wsL_build (va_wsS RL 98 yL_act wsL_act) := goodIn_app (goodIn_of _ (by decide +kernel)) ggL_build_L_act
theorem dL_build_0 : decode cL_build 0 = .ok (.new 10, 3) := by decide +kernel
theorem dL_build_3 : decode cL_build 3 = .ok (.dup, 1) := by decide +kernel
theorem dL_build_4 : decode cL_build 4 = .ok (.invokespecial 93, 3) := by decide +kernel
theorem dL_build_7 : decode cL_build 7 = .ok (.astore_n 2, 1) := by decide +kernel
theorem dL_build_8 : decode cL_build 8 = .ok (.iconst 0, 1) := by decide +kernel
theorem dL_build_9 : decode cL_build 9 = .ok (.istore_n 3, 1) := by decide +kernel
theorem dL_build_10 : decode cL_build 10 = .ok (.iload_n 3, 1) := by decide +kernel
theorem dL_build_11 : decode cL_build 11 = .ok (.bipush 22, 2) := by decide +kernel
theorem dL_build_13 : decode cL_build 13 = .ok (.if_icmp .ge 60, 3) := by decide +kernel
theorem dL_build_16 : decode cL_build 16 = .ok (.aload_n 0, 1) := by decide +kernel
theorem dL_build_17 : decode cL_build 17 = .ok (.aload_n 2, 1) := by decide +kernel
theorem dL_build_18 : decode cL_build 18 = .ok (.aload_n 1, 1) := by decide +kernel
theorem dL_build_19 : decode cL_build 19 = .ok (.iload_n 3, 1) := by decide +kernel
theorem dL_build_20 : decode cL_build 20 = .ok (.bipush 11, 2) := by decide +kernel
theorem dL_build_22 : decode cL_build 22 = .ok (.irem, 1) := by decide +kernel
theorem dL_build_23 : decode cL_build 23 = .ok (.invokestatic 94, 3) := by decide +kernel
theorem dL_build_26 : decode cL_build 26 = .ok (.iload_n 3, 1) := by decide +kernel
theorem dL_build_27 : decode cL_build 27 = .ok (.bipush 11, 2) := by decide +kernel
theorem dL_build_29 : decode cL_build 29 = .ok (.idiv, 1) := by decide +kernel
theorem dL_build_30 : decode cL_build 30 = .ok (.iconst 4, 1) := by decide +kernel
theorem dL_build_31 : decode cL_build 31 = .ok (.imul, 1) := by decide +kernel
theorem dL_build_32 : decode cL_build 32 = .ok (.ishr, 1) := by decide +kernel
theorem dL_build_33 : decode cL_build 33 = .ok (.sipush 131, 3) := by decide +kernel
theorem dL_build_36 : decode cL_build 36 = .ok (.iload_n 3, 1) := by decide +kernel
theorem dL_build_37 : decode cL_build 37 = .ok (.imul, 1) := by decide +kernel
theorem dL_build_38 : decode cL_build 38 = .ok (.iadd, 1) := by decide +kernel
theorem dL_build_39 : decode cL_build 39 = .ok (.iload_n 3, 1) := by decide +kernel
theorem dL_build_40 : decode cL_build 40 = .ok (.iconst 3, 1) := by decide +kernel
theorem dL_build_41 : decode cL_build 41 = .ok (.irem, 1) := by decide +kernel
theorem dL_build_42 : decode cL_build 42 = .ok (.ifCond .ne 13, 3) := by decide +kernel
theorem dL_build_45 : decode cL_build 45 = .ok (.iload_n 3, 1) := by decide +kernel
theorem dL_build_46 : decode cL_build 46 = .ok (.bipush 12, 2) := by decide +kernel
theorem dL_build_48 : decode cL_build 48 = .ok (.if_icmp .ge 7, 3) := by decide +kernel
theorem dL_build_51 : decode cL_build 51 = .ok (.iconst 0, 1) := by decide +kernel
theorem dL_build_52 : decode cL_build 52 = .ok (.goto 6, 3) := by decide +kernel
theorem dL_build_55 : decode cL_build 55 = .ok (.sipush 512, 3) := by decide +kernel
theorem dL_build_58 : decode cL_build 58 = .ok (.iadd, 1) := by decide +kernel
theorem dL_build_59 : decode cL_build 59 = .ok (.invokestatic 98, 3) := by decide +kernel
theorem dL_build_62 : decode cL_build 62 = .ok (.ifCond .ne 5, 3) := by decide +kernel
theorem dL_build_65 : decode cL_build 65 = .ok (.aconst_null, 1) := by decide +kernel
theorem dL_build_66 : decode cL_build 66 = .ok (.areturn, 1) := by decide +kernel
theorem dL_build_67 : decode cL_build 67 = .ok (.iinc 3 1, 3) := by decide +kernel
theorem dL_build_70 : decode cL_build 70 = .ok (.goto (-60), 3) := by decide +kernel
theorem dL_build_73 : decode cL_build 73 = .ok (.aload_n 2, 1) := by decide +kernel
theorem dL_build_74 : decode cL_build 74 = .ok (.areturn, 1) := by decide +kernel
set_option maxRecDepth 20000 in
theorem ggL_law_X1_init : GoodIn wsL_law wsX1_init := goodIn_r _ [12, 13, 14, 15, 16, 17, 18, 19, 20, 21, 22, 23, 24, 25, 26, 27, 28, 29, 30, 31, 32, 33, 34, 35, 36, 37, 38, 39, 327, 328, 329, 330, 333, 334, 335, 336, 337, 338, 339, 340, 341, 342, 343, 344, 345, 346] (by decide +kernel) (by decide +kernel)
set_option maxRecDepth 20000 in
theorem gL_law_X1_init : GoodIn wsL_law (wsX1_init) := ggL_law_X1_init
set_option maxRecDepth 20000 in
theorem ggL_law_L_build_p0 : GoodIn wsL_law (.code yL_build cL_build 4 (some (.object "CuckooShopLaw$Sim")) :: wsL_build_r1) := goodIn_r _ [43, 44, 45, 46, 47, 48, 49, 14, 15, 50, 51, 52, 53, 42, 54, 55, 56, 57, 58, 9, 59, 60, 61, 62, 63] (by decide +kernel) (by decide +kernel)
set_option maxRecDepth 20000 in
theorem ggL_law_L_build_p1 : GoodIn wsL_law wsL_build_r2 := goodIn_r _ [64, 65, 66, 67, 68, 69, 70, 71, 72, 73, 74, 75, 76, 77, 78, 79, 80, 81, 82, 83, 84, 85, 86, 87] (by decide +kernel) (by decide +kernel)
set_option maxRecDepth 20000 in
theorem ggL_law_L_build_p2 : GoodIn wsL_law wsL_build_r3 := goodIn_r _ [88, 89, 90, 91, 92, 93, 94, 2, 95, 96, 97, 21, 17, 98, 99, 100, 101, 102, 103, 104, 105, 106, 20, 107] (by decide +kernel) (by decide +kernel)
set_option maxRecDepth 20000 in
theorem ggL_law_L_build_p3 : GoodIn wsL_law wsL_build_r4 := goodIn_r _ [108, 33, 34, 109, 110, 111, 112, 113, 114, 115, 116, 117, 118, 119, 120, 121, 26, 27, 28, 122, 123, 124, 125, 126] (by decide +kernel) (by decide +kernel)
set_option maxRecDepth 20000 in
theorem ggL_law_L_build_p4 : GoodIn wsL_law wsL_build_r5 := goodIn_r _ [127, 128, 30, 129, 130, 131, 132, 133, 134, 135, 136, 137, 138, 139, 140, 141, 142, 22, 143, 144, 145, 146, 147, 148] (by decide +kernel) (by decide +kernel)
set_option maxRecDepth 20000 in
theorem ggL_law_L_build_p5 : GoodIn wsL_law wsL_build_r6 := goodIn_r _ [149, 150, 151, 152, 153, 154, 155, 156, 157, 158, 159, 29, 32, 160, 161, 162, 163, 164, 165, 166, 167, 168, 169, 31] (by decide +kernel) (by decide +kernel)
set_option maxRecDepth 20000 in
theorem ggL_law_L_build_p6 : GoodIn wsL_law wsL_build_r7 := goodIn_r _ [170, 171, 172, 173, 174, 175, 176, 177, 178, 179, 35, 36] (by decide +kernel) (by decide +kernel)
set_option maxRecDepth 20000 in
theorem ggL_law_L_build_wsX30 : GoodIn wsL_law wsX30 := goodIn_r _ [331, 332] (by decide +kernel) (by decide +kernel)
set_option maxRecDepth 20000 in
theorem ggL_law_L_build_wsX20 : GoodIn wsL_law wsX20 := goodIn_r _ [347, 348, 349, 350, 351, 352, 353, 354, 355, 356, 357, 358, 359, 360] (by decide +kernel) (by decide +kernel)
set_option maxRecDepth 20000 in
theorem ggL_law_L_build_wsX10 : GoodIn wsL_law wsX10 := goodIn_r _ [327, 328, 329, 330] (by decide +kernel) (by decide +kernel)
set_option maxRecDepth 20000 in
theorem ggL_law_L_build_wsX00 : GoodIn wsL_law wsX00 := goodIn_r _ [333, 334, 335, 336, 337, 338, 339, 340, 341, 342, 343, 344, 345, 346] (by decide +kernel) (by decide +kernel)
set_option maxRecDepth 20000 in
theorem ggL_law_L_build : GoodIn wsL_law wsL_build := goodIn_ca (goodIn_ca (goodIn_ca (goodIn_ca (goodIn_ca (goodIn_ca (goodIn_ca (goodIn_ca ggL_law_L_build_p0 (goodIn_app ggL_law_L_build_p1 (goodIn_app ggL_law_L_build_p2 (goodIn_app ggL_law_L_build_p3 (goodIn_app ggL_law_L_build_p4 (goodIn_app ggL_law_L_build_p5 ggL_law_L_build_p6)))))) ggL_law_L_build_wsX30) ggL_law_L_build_wsX20) ggL_law_L_build_wsX10) ggL_law_L_build_wsX00) (goodIn_sub (fun _ h => List.mem_append_left _ (List.mem_append_left _ (List.mem_append_right _ h))) (by decide +kernel))) (goodIn_sub (fun _ h => List.mem_append_left _ (List.mem_append_right _ h)) (by decide +kernel))) (goodIn_sub (fun _ h => List.mem_append_right _ h) (by decide +kernel))
set_option maxRecDepth 20000 in
theorem gL_law_L_build : GoodIn wsL_law (va_wsS RL 103 yL_build wsL_build) := goodIn_app (goodIn_of _ (by decide +kernel)) ggL_law_L_build
set_option maxRecDepth 20000 in
theorem ggL_law_L_cell : GoodIn wsL_law wsL_cell := goodIn_r _ [54, 55] (by decide +kernel) (by decide +kernel)
set_option maxRecDepth 20000 in
theorem gL_law_L_cell : GoodIn wsL_law (va_wsS RL 94 yL_cell wsL_cell) := goodIn_app (goodIn_of _ (by decide +kernel)) ggL_law_L_cell
set_option maxRecDepth 20000 in
theorem ggL_law_L_act_p0 : GoodIn wsL_law (.code yL_act cL_act 12 (some .boolean) :: wsL_act_r1) := goodIn_r _ [58, 9, 59, 60, 61, 62, 63, 64, 65, 66, 67, 68, 69, 70, 71, 72, 42, 73, 74, 75, 76, 77, 46, 78, 51] (by decide +kernel) (by decide +kernel)
set_option maxRecDepth 20000 in
theorem ggL_law_L_act_p1 : GoodIn wsL_law wsL_act_r2 := goodIn_r _ [50, 79, 80, 81, 82, 83, 84, 14, 15, 85, 86, 87, 88, 89, 90, 91, 92, 93, 94, 2, 95, 96, 97, 21] (by decide +kernel) (by decide +kernel)
set_option maxRecDepth 20000 in
theorem ggL_law_L_act_p2 : GoodIn wsL_law wsL_act_r3 := goodIn_r _ [17, 98, 99, 100, 101, 102, 103, 104, 105, 106, 20, 107, 108, 33, 34, 109, 110, 111, 112, 113, 114, 115, 116, 117] (by decide +kernel) (by decide +kernel)
set_option maxRecDepth 20000 in
theorem ggL_law_L_act_p3 : GoodIn wsL_law wsL_act_r4 := goodIn_r _ [118, 119, 120, 121, 26, 27, 28, 122, 123, 124, 125, 126, 127, 128, 30, 129, 130, 131, 132, 133, 134, 135, 136, 137] (by decide +kernel) (by decide +kernel)
set_option maxRecDepth 20000 in
theorem ggL_law_L_act_p4 : GoodIn wsL_law wsL_act_r5 := goodIn_r _ [138, 139, 140, 141, 142, 22, 143, 144, 145, 146, 147, 148, 149, 150, 151, 152, 153, 154, 155, 156, 157, 158, 159, 29] (by decide +kernel) (by decide +kernel)
set_option maxRecDepth 20000 in
theorem ggL_law_L_act_p5 : GoodIn wsL_law wsL_act_r6 := goodIn_r _ [32, 160, 161, 162, 163, 164, 165, 166, 167, 168, 169, 31, 170, 171, 172, 173, 174, 175, 176, 177, 178, 179, 35, 36] (by decide +kernel) (by decide +kernel)
set_option maxRecDepth 20000 in
theorem ggL_law_L_act_wsX30 : GoodIn wsL_law wsX30 := goodIn_r _ [331, 332] (by decide +kernel) (by decide +kernel)
set_option maxRecDepth 20000 in
theorem ggL_law_L_act_wsX20 : GoodIn wsL_law wsX20 := goodIn_r _ [347, 348, 349, 350, 351, 352, 353, 354, 355, 356, 357, 358, 359, 360] (by decide +kernel) (by decide +kernel)
set_option maxRecDepth 20000 in
theorem ggL_law_L_act_wsX10 : GoodIn wsL_law wsX10 := goodIn_r _ [327, 328, 329, 330] (by decide +kernel) (by decide +kernel)
set_option maxRecDepth 20000 in
theorem ggL_law_L_act_wsX00 : GoodIn wsL_law wsX00 := goodIn_r _ [333, 334, 335, 336, 337, 338, 339, 340, 341, 342, 343, 344, 345, 346] (by decide +kernel) (by decide +kernel)
set_option maxRecDepth 20000 in
theorem ggL_law_L_act : GoodIn wsL_law wsL_act := goodIn_ca (goodIn_ca (goodIn_ca (goodIn_ca (goodIn_ca (goodIn_ca (goodIn_ca (goodIn_ca ggL_law_L_act_p0 (goodIn_app ggL_law_L_act_p1 (goodIn_app ggL_law_L_act_p2 (goodIn_app ggL_law_L_act_p3 (goodIn_app ggL_law_L_act_p4 ggL_law_L_act_p5))))) ggL_law_L_act_wsX30) ggL_law_L_act_wsX20) ggL_law_L_act_wsX10) ggL_law_L_act_wsX00) (goodIn_sub (fun _ h => List.mem_append_left _ (List.mem_append_left _ (List.mem_append_right _ h))) (by decide +kernel))) (goodIn_sub (fun _ h => List.mem_append_left _ (List.mem_append_right _ h)) (by decide +kernel))) (goodIn_sub (fun _ h => List.mem_append_right _ h) (by decide +kernel))
set_option maxRecDepth 20000 in
theorem gL_law_L_act : GoodIn wsL_law (va_wsS RL 98 yL_act wsL_act) := goodIn_app (goodIn_of _ (by decide +kernel)) ggL_law_L_act
set_option maxRecDepth 20000 in
theorem ggL_law_L_below : GoodIn wsL_law wsL_below := goodIn_r _ [73, 74] (by decide +kernel) (by decide +kernel)
set_option maxRecDepth 20000 in
theorem gL_law_L_below : GoodIn wsL_law (va_wsS RL 15 yL_below wsL_below) := goodIn_app (goodIn_of _ (by decide +kernel)) ggL_law_L_below
set_option maxRecDepth 20000 in
theorem ggL_law_X1_pass : GoodIn wsL_law wsX1_pass := goodIn_ca (goodIn_r _ [183, 17, 22, 184, 185, 2, 186, 101, 102, 103, 104, 105, 187, 188, 189, 190, 21, 191, 20, 192, 193, 39, 32, 194, 195, 196, 197, 34, 33, 198, 122, 123, 124, 26, 27, 125, 126, 127, 128, 28, 30, 199, 200, 201, 202, 35, 36, 203, 204, 205, 206, 207, 208, 209, 31, 210, 211, 7, 212, 37, 38, 213, 214, 215, 216, 29, 327, 328, 329, 330, 333, 334, 335, 336, 337, 338, 339, 340, 341, 342, 343, 344, 345, 346] (by decide +kernel) (by decide +kernel)) (goodIn_sub (fun _ h => List.mem_append_left _ (List.mem_append_right _ h)) (by decide +kernel))
set_option maxRecDepth 20000 in
theorem gL_law_X1_pass : GoodIn wsL_law (wsV RL 107 RX1 yX1_pass wsX1_pass) := goodIn_app (goodIn_of _ (by decide +kernel)) ggL_law_X1_pass
set_option maxRecDepth 20000 in
theorem ggL_law_X3_pass : GoodIn wsL_law wsX3_pass := goodIn_r _ [220, 51, 221, 222, 223, 224, 225, 80, 226, 227, 90, 228, 85, 86, 138, 89, 229, 230, 87, 88, 231, 130, 131, 132, 133, 232, 233, 234, 235, 91, 236, 331, 332, 347, 348, 349, 350, 351, 352, 353, 354, 355, 356, 357, 358, 359, 360] (by decide +kernel) (by decide +kernel)
set_option maxRecDepth 20000 in
theorem gL_law_X3_pass : GoodIn wsL_law (wsV RL 110 RX3 yX3_pass wsX3_pass) := goodIn_app (goodIn_of _ (by decide +kernel)) ggL_law_X3_pass
set_option maxRecDepth 20000 in
theorem ggL_law_X1_count : GoodIn wsL_law wsX1_count := goodIn_ca (goodIn_r _ [240, 117, 118, 103, 104, 2, 105, 241, 242, 243, 244, 22, 21, 17, 146, 147, 148, 149, 150, 151, 152, 245, 246, 247, 248, 249, 20, 250, 251, 33, 34, 29, 30, 31, 32, 37, 38, 39, 198, 122, 123, 124, 26, 27, 125, 126, 127, 128, 28, 199, 200, 201, 202, 35, 36, 252, 253, 254, 255, 143, 144, 145, 256, 257, 258, 259, 260, 261, 7, 262, 327, 328, 329, 330, 333, 334, 335, 336, 337, 338, 339, 340, 341, 342, 343, 344, 345, 346] (by decide +kernel) (by decide +kernel)) (goodIn_sub (fun _ h => List.mem_append_right _ h) (by decide +kernel))
set_option maxRecDepth 20000 in
theorem gL_law_X1_count : GoodIn wsL_law (wsV RL 113 RX1 yX1_count wsX1_count) := goodIn_app (goodIn_of _ (by decide +kernel)) ggL_law_X1_count
set_option maxRecDepth 20000 in
theorem ggL_law_X1_clock : GoodIn wsL_law wsX1_clock := goodIn_ca (goodIn_r _ [266, 117, 118, 17, 113, 114, 115, 2, 116, 21, 103, 104, 105, 249, 20, 250, 251, 33, 34, 29, 30, 31, 32, 37, 38, 39, 198, 122, 123, 124, 26, 27, 125, 126, 127, 128, 28, 199, 200, 201, 202, 35, 36, 327, 328, 329, 330, 333, 334, 335, 336, 337, 338, 339, 340, 341, 342, 343, 344, 345, 346] (by decide +kernel) (by decide +kernel)) (goodIn_sub (fun _ h => List.mem_append_right _ h) (by decide +kernel))
set_option maxRecDepth 20000 in
theorem gL_law_X1_clock : GoodIn wsL_law (wsV RL 118 RX1 yX1_clock wsX1_clock) := goodIn_app (goodIn_of _ (by decide +kernel)) ggL_law_X1_clock
set_option maxRecDepth 20000 in
theorem ggL_law_X1_next : GoodIn wsL_law wsX1_next := goodIn_ca (goodIn_r _ [270, 18, 17, 22, 113, 114, 115, 2, 116, 117, 118, 21, 271, 20, 272, 273, 26, 27, 28, 29, 30, 31, 32, 33, 34, 35, 36, 37, 38, 39, 191, 192, 193, 194, 195, 196, 197, 198, 122, 123, 124, 125, 126, 127, 128, 199, 200, 201, 202, 203, 204, 205, 206, 207, 208, 209, 210, 211, 7, 212, 213, 214, 215, 216, 327, 328, 329, 330, 333, 334, 335, 336, 337, 338, 339, 340, 341, 342, 343, 344, 345, 346] (by decide +kernel) (by decide +kernel)) (goodIn_sub (fun _ h => List.mem_append_right _ h) (by decide +kernel))
set_option maxRecDepth 20000 in
theorem gL_law_X1_next : GoodIn wsL_law (wsV RL 121 RX1 yX1_next wsX1_next) := goodIn_app (goodIn_of _ (by decide +kernel)) ggL_law_X1_next
set_option maxRecDepth 20000 in
theorem ggL_law_X1_stands : GoodIn wsL_law wsX1_stands := goodIn_ca (goodIn_r _ [277, 17, 113, 114, 115, 2, 116, 117, 118, 21, 278, 20, 279, 280, 32, 29, 327, 328, 329, 330, 333, 334, 335, 336, 337, 338, 339, 340, 341, 342, 343, 344, 345, 346] (by decide +kernel) (by decide +kernel)) (goodIn_sub (fun _ h => List.mem_append_right _ h) (by decide +kernel))
set_option maxRecDepth 20000 in
theorem gL_law_X1_stands : GoodIn wsL_law (wsV RL 124 RX1 yX1_stands wsX1_stands) := goodIn_app (goodIn_of _ (by decide +kernel)) ggL_law_X1_stands
set_option maxRecDepth 20000 in
theorem ggL_law_X1_foresee : GoodIn wsL_law wsX1_foresee := goodIn_ca (goodIn_ca (goodIn_r _ [284, 117, 118, 18, 22, 17, 184, 185, 2, 186, 101, 102, 103, 104, 105, 285, 286, 287, 288, 21, 271, 20, 272, 273, 26, 27, 28, 29, 30, 31, 32, 33, 34, 35, 36, 37, 38, 39, 187, 188, 189, 190, 191, 192, 193, 194, 195, 196, 197, 198, 122, 123, 124, 125, 126, 127, 128, 199, 200, 201, 202, 203, 204, 205, 206, 207, 208, 209, 210, 211, 7, 212, 213, 214, 215, 216, 245, 246, 247, 248, 249, 250, 251, 256, 257, 258, 259, 260, 261, 262, 143, 144, 145, 146, 147, 148, 149, 150, 151, 152, 327, 328, 329, 330, 333, 334, 335, 336, 337, 338, 339, 340, 341, 342, 343, 344, 345, 346] (by decide +kernel) (by decide +kernel)) (goodIn_sub (fun _ h => List.mem_append_right _ h) (by decide +kernel))) (goodIn_sub (fun _ h => List.mem_append_left _ (List.mem_append_right _ h)) (by decide +kernel))
set_option maxRecDepth 20000 in
theorem gL_law_X1_foresee : GoodIn wsL_law (wsV RL 127 RX1 yX1_foresee wsX1_foresee) := goodIn_app (goodIn_of _ (by decide +kernel)) ggL_law_X1_foresee
set_option maxRecDepth 20000 in
theorem ggL_law_X2_isShut : GoodIn wsL_law wsX2_isShut := goodIn_r _ [235, 91, 236, 347, 348, 349, 350, 351, 352, 353, 354, 355, 356, 357, 358, 359, 360] (by decide +kernel) (by decide +kernel)
set_option maxRecDepth 20000 in
theorem gL_law_X2_isShut : GoodIn wsL_law (wsV RL 135 RX2 yX2_isShut wsX2_isShut) := goodIn_app (goodIn_of _ (by decide +kernel)) ggL_law_X2_isShut
set_option maxRecDepth 20000 in
theorem ggL_law_X1_mean : GoodIn wsL_law wsX1_mean := goodIn_r _ [293, 21, 17, 122, 20, 123, 124, 26, 27, 125, 126, 127, 128, 28, 30, 327, 328, 329, 330, 333, 334, 335, 336, 337, 338, 339, 340, 341, 342, 343, 344, 345, 346] (by decide +kernel) (by decide +kernel)
set_option maxRecDepth 20000 in
theorem gL_law_X1_mean : GoodIn wsL_law (wsV RL 139 RX1 yX1_mean wsX1_mean) := goodIn_app (goodIn_of _ (by decide +kernel)) ggL_law_X1_mean
set_option maxRecDepth 20000 in
theorem ggL_law_X3_isSame : GoodIn wsL_law wsX3_isSame := goodIn_ca (goodIn_r _ [297, 51, 4, 81, 298, 299, 300, 301, 302, 303, 304, 305, 306, 222, 221, 307, 130, 131, 80, 132, 133, 88, 308, 233, 234, 235, 91, 236, 309, 264, 265, 2, 266, 117, 118, 17, 113, 114, 115, 116, 21, 103, 104, 105, 249, 20, 250, 251, 33, 34, 29, 30, 31, 32, 37, 38, 39, 198, 122, 123, 124, 26, 27, 125, 126, 127, 128, 28, 199, 200, 201, 202, 35, 36, 310, 311, 312, 313, 22, 143, 144, 145, 146, 147, 148, 149, 150, 151, 152, 314, 135, 136, 137, 138, 315, 275, 276, 277, 278, 279, 280, 316, 317, 318, 46, 319, 320, 321, 322, 323, 324, 261, 7, 262, 325, 238, 239, 240, 241, 242, 243, 244, 245, 246, 247, 248, 252, 253, 254, 255, 256, 257, 258, 259, 260, 326, 291, 292, 293, 331, 332, 347, 348, 349, 350, 351, 352, 353, 354, 355, 356, 357, 358, 359, 360, 327, 328, 329, 330, 333, 334, 335, 336, 337, 338, 339, 340, 341, 342, 343, 344, 345, 346] (by decide +kernel) (by decide +kernel)) (goodIn_sub (fun _ h => List.mem_append_right _ h) (by decide +kernel))
set_option maxRecDepth 20000 in
theorem gL_law_X3_isSame : GoodIn wsL_law (wsV RL 143 RX3 yX3_isSame wsX3_isSame) := goodIn_app (goodIn_of _ (by decide +kernel)) ggL_law_X3_isSame
end
section
theorem dL_law_0 : decode cL_law 0 = .ok (.new 26, 3) := by decide +kernel
theorem dL_law_3 : decode cL_law 3 = .ok (.dup, 1) := by decide +kernel
theorem dL_law_4 : decode cL_law 4 = .ok (.invokespecial 102, 3) := by decide +kernel
theorem dL_law_7 : decode cL_law 7 = .ok (.astore_n 1, 1) := by decide +kernel
theorem dL_law_8 : decode cL_law 8 = .ok (.aload_n 1, 1) := by decide +kernel
theorem dL_law_9 : decode cL_law 9 = .ok (.aload_n 0, 1) := by decide +kernel
theorem dL_law_10 : decode cL_law 10 = .ok (.invokestatic 103, 3) := by decide +kernel
theorem dL_law_13 : decode cL_law 13 = .ok (.astore_n 2, 1) := by decide +kernel
theorem dL_law_14 : decode cL_law 14 = .ok (.aload_n 2, 1) := by decide +kernel
theorem dL_law_15 : decode cL_law 15 = .ok (.ifnonnull 5, 3) := by decide +kernel
theorem dL_law_18 : decode cL_law 18 = .ok (.iconst 0, 1) := by decide +kernel
theorem dL_law_19 : decode cL_law 19 = .ok (.ireturn, 1) := by decide +kernel
theorem dL_law_20 : decode cL_law 20 = .ok (.iconst 0, 1) := by decide +kernel
theorem dL_law_21 : decode cL_law 21 = .ok (.istore_n 3, 1) := by decide +kernel
theorem dL_law_22 : decode cL_law 22 = .ok (.iload_n 3, 1) := by decide +kernel
theorem dL_law_23 : decode cL_law 23 = .ok (.bipush 44, 2) := by decide +kernel
theorem dL_law_25 : decode cL_law 25 = .ok (.if_icmp .ge 990, 3) := by decide +kernel
theorem dL_law_28 : decode cL_law 28 = .ok (.aload_n 0, 1) := by decide +kernel
theorem dL_law_29 : decode cL_law 29 = .ok (.iload_n 3, 1) := by decide +kernel
theorem dL_law_30 : decode cL_law 30 = .ok (.bipush 16, 2) := by decide +kernel
theorem dL_law_32 : decode cL_law 32 = .ok (.irem, 1) := by decide +kernel
theorem dL_law_33 : decode cL_law 33 = .ok (.invokestatic 94, 3) := by decide +kernel
theorem dL_law_36 : decode cL_law 36 = .ok (.iload_n 3, 1) := by decide +kernel
theorem dL_law_37 : decode cL_law 37 = .ok (.bipush 16, 2) := by decide +kernel
theorem dL_law_39 : decode cL_law 39 = .ok (.idiv, 1) := by decide +kernel
theorem dL_law_40 : decode cL_law 40 = .ok (.iconst 3, 1) := by decide +kernel
theorem dL_law_41 : decode cL_law 41 = .ok (.imul, 1) := by decide +kernel
theorem dL_law_42 : decode cL_law 42 = .ok (.ishr, 1) := by decide +kernel
theorem dL_law_43 : decode cL_law 43 = .ok (.sipush 131, 3) := by decide +kernel
theorem dL_law_46 : decode cL_law 46 = .ok (.iload_n 3, 1) := by decide +kernel
theorem dL_law_47 : decode cL_law 47 = .ok (.imul, 1) := by decide +kernel
theorem dL_law_48 : decode cL_law 48 = .ok (.iadd, 1) := by decide +kernel
theorem dL_law_49 : decode cL_law 49 = .ok (.istore 4, 2) := by decide +kernel
theorem dL_law_51 : decode cL_law 51 = .ok (.aload_n 1, 1) := by decide +kernel
theorem dL_law_52 : decode cL_law 52 = .ok (.aload_n 2, 1) := by decide +kernel
theorem dL_law_53 : decode cL_law 53 = .ok (.iload 4, 2) := by decide +kernel
theorem dL_law_55 : decode cL_law 55 = .ok (.invokestatic 98, 3) := by decide +kernel
theorem dL_law_58 : decode cL_law 58 = .ok (.ifCond .ne 5, 3) := by decide +kernel
theorem dL_law_61 : decode cL_law 61 = .ok (.iconst 0, 1) := by decide +kernel
theorem dL_law_62 : decode cL_law 62 = .ok (.ireturn, 1) := by decide +kernel
theorem dL_law_63 : decode cL_law 63 = .ok (.iload_n 3, 1) := by decide +kernel
theorem dL_law_64 : decode cL_law 64 = .ok (.iconst 5, 1) := by decide +kernel
theorem dL_law_65 : decode cL_law 65 = .ok (.irem, 1) := by decide +kernel
theorem dL_law_66 : decode cL_law 66 = .ok (.iconst 4, 1) := by decide +kernel
theorem dL_law_67 : decode cL_law 67 = .ok (.if_icmp .ne 44, 3) := by decide +kernel
theorem dL_law_70 : decode cL_law 70 = .ok (.iconst 1, 1) := by decide +kernel
theorem dL_law_71 : decode cL_law 71 = .ok (.iload 4, 2) := by decide +kernel
theorem dL_law_73 : decode cL_law 73 = .ok (.iconst 4, 1) := by decide +kernel
theorem dL_law_74 : decode cL_law 74 = .ok (.ishr, 1) := by decide +kernel
theorem dL_law_75 : decode cL_law 75 = .ok (.bipush 100, 2) := by decide +kernel
theorem dL_law_77 : decode cL_law 77 = .ok (.invokestatic 15, 3) := by decide +kernel
theorem dL_law_80 : decode cL_law 80 = .ok (.iadd, 1) := by decide +kernel
theorem dL_law_81 : decode cL_law 81 = .ok (.istore 5, 2) := by decide +kernel
theorem dL_law_83 : decode cL_law 83 = .ok (.aload_n 1, 1) := by decide +kernel
theorem dL_law_84 : decode cL_law 84 = .ok (.iload 5, 2) := by decide +kernel
theorem dL_law_86 : decode cL_law 86 = .ok (.invokevirtual 107, 3) := by decide +kernel
theorem dL_law_89 : decode cL_law 89 = .ok (.pop, 1) := by decide +kernel
theorem dL_law_90 : decode cL_law 90 = .ok (.iconst 0, 1) := by decide +kernel
theorem dL_law_91 : decode cL_law 91 = .ok (.istore 6, 2) := by decide +kernel
theorem dL_law_93 : decode cL_law 93 = .ok (.iload 6, 2) := by decide +kernel
theorem dL_law_95 : decode cL_law 95 = .ok (.iload 5, 2) := by decide +kernel
theorem dL_law_97 : decode cL_law 97 = .ok (.if_icmp .ge 14, 3) := by decide +kernel
theorem dL_law_100 : decode cL_law 100 = .ok (.aload_n 2, 1) := by decide +kernel
theorem dL_law_101 : decode cL_law 101 = .ok (.invokevirtual 110, 3) := by decide +kernel
theorem dL_law_104 : decode cL_law 104 = .ok (.pop, 1) := by decide +kernel
theorem dL_law_105 : decode cL_law 105 = .ok (.iinc 6 1, 3) := by decide +kernel
theorem dL_law_108 : decode cL_law 108 = .ok (.goto (-15), 3) := by decide +kernel
theorem dL_law_111 : decode cL_law 111 = .ok (.aload_n 1, 1) := by decide +kernel
theorem dL_law_112 : decode cL_law 112 = .ok (.iconst 2, 1) := by decide +kernel
theorem dL_law_113 : decode cL_law 113 = .ok (.invokevirtual 113, 3) := by decide +kernel
theorem dL_law_116 : decode cL_law 116 = .ok (.istore 5, 2) := by decide +kernel
theorem dL_law_118 : decode cL_law 118 = .ok (.iload 5, 2) := by decide +kernel
theorem dL_law_120 : decode cL_law 120 = .ok (.bipush 11, 2) := by decide +kernel
theorem dL_law_122 : decode cL_law 122 = .ok (.multianewarray 116 2, 4) := by decide +kernel
theorem dL_law_126 : decode cL_law 126 = .ok (.astore 6, 2) := by decide +kernel
theorem dL_law_128 : decode cL_law 128 = .ok (.iload 5, 2) := by decide +kernel
theorem dL_law_130 : decode cL_law 130 = .ok (.newarray .int, 2) := by decide +kernel
theorem dL_law_132 : decode cL_law 132 = .ok (.astore 7, 2) := by decide +kernel
theorem dL_law_134 : decode cL_law 134 = .ok (.iload 5, 2) := by decide +kernel
theorem dL_law_136 : decode cL_law 136 = .ok (.newarray .int, 2) := by decide +kernel
theorem dL_law_138 : decode cL_law 138 = .ok (.astore 8, 2) := by decide +kernel
theorem dL_law_140 : decode cL_law 140 = .ok (.iconst 0, 1) := by decide +kernel
theorem dL_law_141 : decode cL_law 141 = .ok (.istore 9, 2) := by decide +kernel
theorem dL_law_143 : decode cL_law 143 = .ok (.iload 9, 2) := by decide +kernel
theorem dL_law_145 : decode cL_law 145 = .ok (.iload 5, 2) := by decide +kernel
theorem dL_law_147 : decode cL_law 147 = .ok (.if_icmp .ge 63, 3) := by decide +kernel
theorem dL_law_150 : decode cL_law 150 = .ok (.iconst 0, 1) := by decide +kernel
theorem dL_law_151 : decode cL_law 151 = .ok (.istore 10, 2) := by decide +kernel
theorem dL_law_153 : decode cL_law 153 = .ok (.iload 10, 2) := by decide +kernel
theorem dL_law_155 : decode cL_law 155 = .ok (.bipush 11, 2) := by decide +kernel
theorem dL_law_157 : decode cL_law 157 = .ok (.if_icmp .ge 25, 3) := by decide +kernel
theorem dL_law_160 : decode cL_law 160 = .ok (.aload 6, 2) := by decide +kernel
theorem dL_law_162 : decode cL_law 162 = .ok (.iload 9, 2) := by decide +kernel
theorem dL_law_164 : decode cL_law 164 = .ok (.aaload, 1) := by decide +kernel
theorem dL_law_165 : decode cL_law 165 = .ok (.iload 10, 2) := by decide +kernel
theorem dL_law_167 : decode cL_law 167 = .ok (.aload_n 1, 1) := by decide +kernel
theorem dL_law_168 : decode cL_law 168 = .ok (.iload 9, 2) := by decide +kernel
theorem dL_law_170 : decode cL_law 170 = .ok (.iload 10, 2) := by decide +kernel
theorem dL_law_172 : decode cL_law 172 = .ok (.invokevirtual 118, 3) := by decide +kernel
theorem dL_law_175 : decode cL_law 175 = .ok (.iastore, 1) := by decide +kernel
theorem dL_law_176 : decode cL_law 176 = .ok (.iinc 10 1, 3) := by decide +kernel
theorem dL_law_179 : decode cL_law 179 = .ok (.goto (-26), 3) := by decide +kernel
theorem dL_law_182 : decode cL_law 182 = .ok (.aload 7, 2) := by decide +kernel
theorem dL_law_184 : decode cL_law 184 = .ok (.iload 9, 2) := by decide +kernel
theorem dL_law_186 : decode cL_law 186 = .ok (.aload_n 1, 1) := by decide +kernel
theorem dL_law_187 : decode cL_law 187 = .ok (.iload 9, 2) := by decide +kernel
theorem dL_law_189 : decode cL_law 189 = .ok (.invokevirtual 121, 3) := by decide +kernel
theorem dL_law_192 : decode cL_law 192 = .ok (.iastore, 1) := by decide +kernel
theorem dL_law_193 : decode cL_law 193 = .ok (.aload 8, 2) := by decide +kernel
theorem dL_law_195 : decode cL_law 195 = .ok (.iload 9, 2) := by decide +kernel
theorem dL_law_197 : decode cL_law 197 = .ok (.aload_n 1, 1) := by decide +kernel
theorem dL_law_198 : decode cL_law 198 = .ok (.iload 9, 2) := by decide +kernel
theorem dL_law_200 : decode cL_law 200 = .ok (.invokevirtual 124, 3) := by decide +kernel
theorem dL_law_203 : decode cL_law 203 = .ok (.iastore, 1) := by decide +kernel
theorem dL_law_204 : decode cL_law 204 = .ok (.iinc 9 1, 3) := by decide +kernel
theorem dL_law_207 : decode cL_law 207 = .ok (.goto (-64), 3) := by decide +kernel
theorem dL_law_210 : decode cL_law 210 = .ok (.aload_n 1, 1) := by decide +kernel
theorem dL_law_211 : decode cL_law 211 = .ok (.iconst 0, 1) := by decide +kernel
theorem dL_law_212 : decode cL_law 212 = .ok (.invokevirtual 113, 3) := by decide +kernel
theorem dL_law_215 : decode cL_law 215 = .ok (.istore 9, 2) := by decide +kernel
theorem dL_law_217 : decode cL_law 217 = .ok (.aload_n 1, 1) := by decide +kernel
theorem dL_law_218 : decode cL_law 218 = .ok (.iconst 1, 1) := by decide +kernel
theorem dL_law_219 : decode cL_law 219 = .ok (.iconst 0, 1) := by decide +kernel
theorem dL_law_220 : decode cL_law 220 = .ok (.invokevirtual 127, 3) := by decide +kernel
theorem dL_law_223 : decode cL_law 223 = .ok (.istore 10, 2) := by decide +kernel
theorem dL_law_225 : decode cL_law 225 = .ok (.aload_n 1, 1) := by decide +kernel
theorem dL_law_226 : decode cL_law 226 = .ok (.iconst 1, 1) := by decide +kernel
theorem dL_law_227 : decode cL_law 227 = .ok (.iconst 1, 1) := by decide +kernel
theorem dL_law_228 : decode cL_law 228 = .ok (.invokevirtual 127, 3) := by decide +kernel
theorem dL_law_231 : decode cL_law 231 = .ok (.istore 11, 2) := by decide +kernel
theorem dL_law_233 : decode cL_law 233 = .ok (.aload_n 1, 1) := by decide +kernel
theorem dL_law_234 : decode cL_law 234 = .ok (.iconst 1, 1) := by decide +kernel
theorem dL_law_235 : decode cL_law 235 = .ok (.iconst 2, 1) := by decide +kernel
theorem dL_law_236 : decode cL_law 236 = .ok (.invokevirtual 127, 3) := by decide +kernel
theorem dL_law_239 : decode cL_law 239 = .ok (.istore 12, 2) := by decide +kernel
theorem dL_law_241 : decode cL_law 241 = .ok (.aload_n 1, 1) := by decide +kernel
theorem dL_law_242 : decode cL_law 242 = .ok (.iconst 1, 1) := by decide +kernel
theorem dL_law_243 : decode cL_law 243 = .ok (.iconst 3, 1) := by decide +kernel
theorem dL_law_244 : decode cL_law 244 = .ok (.invokevirtual 127, 3) := by decide +kernel
theorem dL_law_247 : decode cL_law 247 = .ok (.istore 13, 2) := by decide +kernel
theorem dL_law_249 : decode cL_law 249 = .ok (.aload_n 1, 1) := by decide +kernel
theorem dL_law_250 : decode cL_law 250 = .ok (.iconst 1, 1) := by decide +kernel
theorem dL_law_251 : decode cL_law 251 = .ok (.invokevirtual 107, 3) := by decide +kernel
theorem dL_law_254 : decode cL_law 254 = .ok (.istore 14, 2) := by decide +kernel
theorem dL_law_256 : decode cL_law 256 = .ok (.aload_n 2, 1) := by decide +kernel
theorem dL_law_257 : decode cL_law 257 = .ok (.invokevirtual 110, 3) := by decide +kernel
theorem dL_law_260 : decode cL_law 260 = .ok (.pop, 1) := by decide +kernel
theorem dL_law_261 : decode cL_law 261 = .ok (.iload 14, 2) := by decide +kernel
theorem dL_law_263 : decode cL_law 263 = .ok (.iload 10, 2) := by decide +kernel
theorem dL_law_265 : decode cL_law 265 = .ok (.if_icmp .ne 62, 3) := by decide +kernel
theorem dL_law_268 : decode cL_law 268 = .ok (.aload_n 1, 1) := by decide +kernel
theorem dL_law_269 : decode cL_law 269 = .ok (.iconst 3, 1) := by decide +kernel
theorem dL_law_270 : decode cL_law 270 = .ok (.invokevirtual 113, 3) := by decide +kernel
theorem dL_law_273 : decode cL_law 273 = .ok (.iload 12, 2) := by decide +kernel
theorem dL_law_275 : decode cL_law 275 = .ok (.if_icmp .ne 52, 3) := by decide +kernel
theorem dL_law_278 : decode cL_law 278 = .ok (.aload_n 1, 1) := by decide +kernel
theorem dL_law_279 : decode cL_law 279 = .ok (.bipush 7, 2) := by decide +kernel
theorem dL_law_281 : decode cL_law 281 = .ok (.invokevirtual 113, 3) := by decide +kernel
theorem dL_law_284 : decode cL_law 284 = .ok (.iload 13, 2) := by decide +kernel
theorem dL_law_286 : decode cL_law 286 = .ok (.if_icmp .ne 41, 3) := by decide +kernel
theorem dL_law_289 : decode cL_law 289 = .ok (.aload_n 1, 1) := by decide +kernel
theorem dL_law_290 : decode cL_law 290 = .ok (.iconst 5, 1) := by decide +kernel
theorem dL_law_291 : decode cL_law 291 = .ok (.invokevirtual 113, 3) := by decide +kernel
theorem dL_law_294 : decode cL_law 294 = .ok (.iload 10, 2) := by decide +kernel
theorem dL_law_296 : decode cL_law 296 = .ok (.if_icmp .ne 31, 3) := by decide +kernel
theorem dL_law_299 : decode cL_law 299 = .ok (.aload_n 1, 1) := by decide +kernel
theorem dL_law_300 : decode cL_law 300 = .ok (.iconst 0, 1) := by decide +kernel
theorem dL_law_301 : decode cL_law 301 = .ok (.invokevirtual 113, 3) := by decide +kernel
theorem dL_law_304 : decode cL_law 304 = .ok (.iload 9, 2) := by decide +kernel
theorem dL_law_306 : decode cL_law 306 = .ok (.iconst 1, 1) := by decide +kernel
theorem dL_law_307 : decode cL_law 307 = .ok (.iadd, 1) := by decide +kernel
theorem dL_law_308 : decode cL_law 308 = .ok (.if_icmp .ne 19, 3) := by decide +kernel
theorem dL_law_311 : decode cL_law 311 = .ok (.aload_n 1, 1) := by decide +kernel
theorem dL_law_312 : decode cL_law 312 = .ok (.iconst 1, 1) := by decide +kernel
theorem dL_law_313 : decode cL_law 313 = .ok (.invokevirtual 113, 3) := by decide +kernel
theorem dL_law_316 : decode cL_law 316 = .ok (.iload 9, 2) := by decide +kernel
theorem dL_law_318 : decode cL_law 318 = .ok (.iconst 1, 1) := by decide +kernel
theorem dL_law_319 : decode cL_law 319 = .ok (.iadd, 1) := by decide +kernel
theorem dL_law_320 : decode cL_law 320 = .ok (.sipush 720, 3) := by decide +kernel
theorem dL_law_323 : decode cL_law 323 = .ok (.irem, 1) := by decide +kernel
theorem dL_law_324 : decode cL_law 324 = .ok (.if_icmp .eq 5, 3) := by decide +kernel
theorem dL_law_327 : decode cL_law 327 = .ok (.iconst 0, 1) := by decide +kernel
theorem dL_law_328 : decode cL_law 328 = .ok (.ireturn, 1) := by decide +kernel
theorem dL_law_329 : decode cL_law 329 = .ok (.iconst 0, 1) := by decide +kernel
theorem dL_law_330 : decode cL_law 330 = .ok (.istore 15, 2) := by decide +kernel
theorem dL_law_332 : decode cL_law 332 = .ok (.iconst 0, 1) := by decide +kernel
theorem dL_law_333 : decode cL_law 333 = .ok (.istore 16, 2) := by decide +kernel
theorem dL_law_335 : decode cL_law 335 = .ok (.iconst 0, 1) := by decide +kernel
theorem dL_law_336 : decode cL_law 336 = .ok (.istore 17, 2) := by decide +kernel
theorem dL_law_338 : decode cL_law 338 = .ok (.iconst 0, 1) := by decide +kernel
theorem dL_law_339 : decode cL_law 339 = .ok (.istore 18, 2) := by decide +kernel
theorem dL_law_341 : decode cL_law 341 = .ok (.iload 18, 2) := by decide +kernel
theorem dL_law_343 : decode cL_law 343 = .ok (.iload 5, 2) := by decide +kernel
theorem dL_law_345 : decode cL_law 345 = .ok (.if_icmp .ge 624, 3) := by decide +kernel
theorem dL_law_348 : decode cL_law 348 = .ok (.aload_n 1, 1) := by decide +kernel
theorem dL_law_349 : decode cL_law 349 = .ok (.iload 18, 2) := by decide +kernel
theorem dL_law_351 : decode cL_law 351 = .ok (.iconst 0, 1) := by decide +kernel
theorem dL_law_352 : decode cL_law 352 = .ok (.invokevirtual 118, 3) := by decide +kernel
theorem dL_law_355 : decode cL_law 355 = .ok (.istore 19, 2) := by decide +kernel
theorem dL_law_357 : decode cL_law 357 = .ok (.aload_n 1, 1) := by decide +kernel
theorem dL_law_358 : decode cL_law 358 = .ok (.iload 18, 2) := by decide +kernel
theorem dL_law_360 : decode cL_law 360 = .ok (.bipush 7, 2) := by decide +kernel
theorem dL_law_362 : decode cL_law 362 = .ok (.invokevirtual 118, 3) := by decide +kernel
theorem dL_law_365 : decode cL_law 365 = .ok (.aload 6, 2) := by decide +kernel
theorem dL_law_367 : decode cL_law 367 = .ok (.iload 18, 2) := by decide +kernel
theorem dL_law_369 : decode cL_law 369 = .ok (.aaload, 1) := by decide +kernel
theorem dL_law_370 : decode cL_law 370 = .ok (.bipush 7, 2) := by decide +kernel
theorem dL_law_372 : decode cL_law 372 = .ok (.iaload, 1) := by decide +kernel
theorem dL_law_373 : decode cL_law 373 = .ok (.isub, 1) := by decide +kernel
theorem dL_law_374 : decode cL_law 374 = .ok (.istore 20, 2) := by decide +kernel
theorem dL_law_376 : decode cL_law 376 = .ok (.iload 15, 2) := by decide +kernel
theorem dL_law_378 : decode cL_law 378 = .ok (.iload 20, 2) := by decide +kernel
theorem dL_law_380 : decode cL_law 380 = .ok (.iadd, 1) := by decide +kernel
theorem dL_law_381 : decode cL_law 381 = .ok (.istore 15, 2) := by decide +kernel
theorem dL_law_383 : decode cL_law 383 = .ok (.iload 16, 2) := by decide +kernel
theorem dL_law_385 : decode cL_law 385 = .ok (.aload_n 1, 1) := by decide +kernel
theorem dL_law_386 : decode cL_law 386 = .ok (.iload 18, 2) := by decide +kernel
theorem dL_law_388 : decode cL_law 388 = .ok (.bipush 8, 2) := by decide +kernel
theorem dL_law_390 : decode cL_law 390 = .ok (.invokevirtual 118, 3) := by decide +kernel
theorem dL_law_393 : decode cL_law 393 = .ok (.aload 6, 2) := by decide +kernel
theorem dL_law_395 : decode cL_law 395 = .ok (.iload 18, 2) := by decide +kernel
theorem dL_law_397 : decode cL_law 397 = .ok (.aaload, 1) := by decide +kernel
theorem dL_law_398 : decode cL_law 398 = .ok (.bipush 8, 2) := by decide +kernel
theorem dL_law_400 : decode cL_law 400 = .ok (.iaload, 1) := by decide +kernel
theorem dL_law_401 : decode cL_law 401 = .ok (.isub, 1) := by decide +kernel
theorem dL_law_402 : decode cL_law 402 = .ok (.iadd, 1) := by decide +kernel
theorem dL_law_403 : decode cL_law 403 = .ok (.istore 16, 2) := by decide +kernel
theorem dL_law_405 : decode cL_law 405 = .ok (.iload 17, 2) := by decide +kernel
theorem dL_law_407 : decode cL_law 407 = .ok (.aload_n 1, 1) := by decide +kernel
theorem dL_law_408 : decode cL_law 408 = .ok (.iload 18, 2) := by decide +kernel
theorem dL_law_410 : decode cL_law 410 = .ok (.iconst 5, 1) := by decide +kernel
theorem dL_law_411 : decode cL_law 411 = .ok (.invokevirtual 118, 3) := by decide +kernel
theorem dL_law_414 : decode cL_law 414 = .ok (.aload_n 1, 1) := by decide +kernel
theorem dL_law_415 : decode cL_law 415 = .ok (.iload 18, 2) := by decide +kernel
theorem dL_law_417 : decode cL_law 417 = .ok (.bipush 6, 2) := by decide +kernel
theorem dL_law_419 : decode cL_law 419 = .ok (.invokevirtual 118, 3) := by decide +kernel
theorem dL_law_422 : decode cL_law 422 = .ok (.imul, 1) := by decide +kernel
theorem dL_law_423 : decode cL_law 423 = .ok (.iadd, 1) := by decide +kernel
theorem dL_law_424 : decode cL_law 424 = .ok (.istore 17, 2) := by decide +kernel
theorem dL_law_426 : decode cL_law 426 = .ok (.iload 20, 2) := by decide +kernel
theorem dL_law_428 : decode cL_law 428 = .ok (.aload_n 1, 1) := by decide +kernel
theorem dL_law_429 : decode cL_law 429 = .ok (.iload 18, 2) := by decide +kernel
theorem dL_law_431 : decode cL_law 431 = .ok (.bipush 9, 2) := by decide +kernel
theorem dL_law_433 : decode cL_law 433 = .ok (.invokevirtual 118, 3) := by decide +kernel
theorem dL_law_436 : decode cL_law 436 = .ok (.if_icmp .ne 52, 3) := by decide +kernel
theorem dL_law_439 : decode cL_law 439 = .ok (.aload_n 1, 1) := by decide +kernel
theorem dL_law_440 : decode cL_law 440 = .ok (.iload 18, 2) := by decide +kernel
theorem dL_law_442 : decode cL_law 442 = .ok (.iconst 4, 1) := by decide +kernel
theorem dL_law_443 : decode cL_law 443 = .ok (.invokevirtual 118, 3) := by decide +kernel
theorem dL_law_446 : decode cL_law 446 = .ok (.aload 6, 2) := by decide +kernel
theorem dL_law_448 : decode cL_law 448 = .ok (.iload 18, 2) := by decide +kernel
theorem dL_law_450 : decode cL_law 450 = .ok (.aaload, 1) := by decide +kernel
theorem dL_law_451 : decode cL_law 451 = .ok (.iconst 4, 1) := by decide +kernel
theorem dL_law_452 : decode cL_law 452 = .ok (.iaload, 1) := by decide +kernel
theorem dL_law_453 : decode cL_law 453 = .ok (.iload 20, 2) := by decide +kernel
theorem dL_law_455 : decode cL_law 455 = .ok (.isub, 1) := by decide +kernel
theorem dL_law_456 : decode cL_law 456 = .ok (.if_icmp .ne 32, 3) := by decide +kernel
theorem dL_law_459 : decode cL_law 459 = .ok (.aload_n 1, 1) := by decide +kernel
theorem dL_law_460 : decode cL_law 460 = .ok (.iload 18, 2) := by decide +kernel
theorem dL_law_462 : decode cL_law 462 = .ok (.iconst 4, 1) := by decide +kernel
theorem dL_law_463 : decode cL_law 463 = .ok (.invokevirtual 118, 3) := by decide +kernel
theorem dL_law_466 : decode cL_law 466 = .ok (.ifCond .lt 22, 3) := by decide +kernel
theorem dL_law_469 : decode cL_law 469 = .ok (.aload_n 1, 1) := by decide +kernel
theorem dL_law_470 : decode cL_law 470 = .ok (.iload 18, 2) := by decide +kernel
theorem dL_law_472 : decode cL_law 472 = .ok (.bipush 8, 2) := by decide +kernel
theorem dL_law_474 : decode cL_law 474 = .ok (.invokevirtual 118, 3) := by decide +kernel
theorem dL_law_477 : decode cL_law 477 = .ok (.aload 6, 2) := by decide +kernel
theorem dL_law_479 : decode cL_law 479 = .ok (.iload 18, 2) := by decide +kernel
theorem dL_law_481 : decode cL_law 481 = .ok (.aaload, 1) := by decide +kernel
theorem dL_law_482 : decode cL_law 482 = .ok (.bipush 8, 2) := by decide +kernel
theorem dL_law_484 : decode cL_law 484 = .ok (.iaload, 1) := by decide +kernel
theorem dL_law_485 : decode cL_law 485 = .ok (.if_icmp .ge 5, 3) := by decide +kernel
theorem dL_law_488 : decode cL_law 488 = .ok (.iconst 0, 1) := by decide +kernel
theorem dL_law_489 : decode cL_law 489 = .ok (.ireturn, 1) := by decide +kernel
theorem dL_law_490 : decode cL_law 490 = .ok (.aload 7, 2) := by decide +kernel
theorem dL_law_492 : decode cL_law 492 = .ok (.iload 18, 2) := by decide +kernel
theorem dL_law_494 : decode cL_law 494 = .ok (.iaload, 1) := by decide +kernel
theorem dL_law_495 : decode cL_law 495 = .ok (.iconst 1, 1) := by decide +kernel
theorem dL_law_496 : decode cL_law 496 = .ok (.if_icmp .le 24, 3) := by decide +kernel
theorem dL_law_499 : decode cL_law 499 = .ok (.iload 20, 2) := by decide +kernel
theorem dL_law_501 : decode cL_law 501 = .ok (.ifCond .ne 87, 3) := by decide +kernel
theorem dL_law_504 : decode cL_law 504 = .ok (.aload_n 1, 1) := by decide +kernel
theorem dL_law_505 : decode cL_law 505 = .ok (.iload 18, 2) := by decide +kernel
theorem dL_law_507 : decode cL_law 507 = .ok (.invokevirtual 121, 3) := by decide +kernel
theorem dL_law_510 : decode cL_law 510 = .ok (.aload 7, 2) := by decide +kernel
theorem dL_law_512 : decode cL_law 512 = .ok (.iload 18, 2) := by decide +kernel
theorem dL_law_514 : decode cL_law 514 = .ok (.iaload, 1) := by decide +kernel
theorem dL_law_515 : decode cL_law 515 = .ok (.iconst 1, 1) := by decide +kernel
theorem dL_law_516 : decode cL_law 516 = .ok (.isub, 1) := by decide +kernel
theorem dL_law_517 : decode cL_law 517 = .ok (.if_icmp .ne 71, 3) := by decide +kernel
theorem dL_law_520 : decode cL_law 520 = .ok (.aload 7, 2) := by decide +kernel
theorem dL_law_522 : decode cL_law 522 = .ok (.iload 18, 2) := by decide +kernel
theorem dL_law_524 : decode cL_law 524 = .ok (.iaload, 1) := by decide +kernel
theorem dL_law_525 : decode cL_law 525 = .ok (.iconst 1, 1) := by decide +kernel
theorem dL_law_526 : decode cL_law 526 = .ok (.if_icmp .ne 7, 3) := by decide +kernel
theorem dL_law_529 : decode cL_law 529 = .ok (.iconst 1, 1) := by decide +kernel
theorem dL_law_530 : decode cL_law 530 = .ok (.goto 4, 3) := by decide +kernel
theorem dL_law_533 : decode cL_law 533 = .ok (.iconst 0, 1) := by decide +kernel
theorem dL_law_534 : decode cL_law 534 = .ok (.iload 20, 2) := by decide +kernel
theorem dL_law_536 : decode cL_law 536 = .ok (.ifCond .le 7, 3) := by decide +kernel
theorem dL_law_539 : decode cL_law 539 = .ok (.iconst 1, 1) := by decide +kernel
theorem dL_law_540 : decode cL_law 540 = .ok (.goto 4, 3) := by decide +kernel
theorem dL_law_543 : decode cL_law 543 = .ok (.iconst 0, 1) := by decide +kernel
theorem dL_law_544 : decode cL_law 544 = .ok (.if_icmp .ne 44, 3) := by decide +kernel
theorem dL_law_547 : decode cL_law 547 = .ok (.aload 8, 2) := by decide +kernel
theorem dL_law_549 : decode cL_law 549 = .ok (.iload 18, 2) := by decide +kernel
theorem dL_law_551 : decode cL_law 551 = .ok (.iaload, 1) := by decide +kernel
theorem dL_law_552 : decode cL_law 552 = .ok (.ifCond .le 19, 3) := by decide +kernel
theorem dL_law_555 : decode cL_law 555 = .ok (.aload_n 1, 1) := by decide +kernel
theorem dL_law_556 : decode cL_law 556 = .ok (.iload 18, 2) := by decide +kernel
theorem dL_law_558 : decode cL_law 558 = .ok (.invokevirtual 124, 3) := by decide +kernel
theorem dL_law_561 : decode cL_law 561 = .ok (.aload 8, 2) := by decide +kernel
theorem dL_law_563 : decode cL_law 563 = .ok (.iload 18, 2) := by decide +kernel
theorem dL_law_565 : decode cL_law 565 = .ok (.iaload, 1) := by decide +kernel
theorem dL_law_566 : decode cL_law 566 = .ok (.iconst 1, 1) := by decide +kernel
theorem dL_law_567 : decode cL_law 567 = .ok (.isub, 1) := by decide +kernel
theorem dL_law_568 : decode cL_law 568 = .ok (.if_icmp .ne 20, 3) := by decide +kernel
theorem dL_law_571 : decode cL_law 571 = .ok (.aload 8, 2) := by decide +kernel
theorem dL_law_573 : decode cL_law 573 = .ok (.iload 18, 2) := by decide +kernel
theorem dL_law_575 : decode cL_law 575 = .ok (.iaload, 1) := by decide +kernel
theorem dL_law_576 : decode cL_law 576 = .ok (.ifCond .ne 14, 3) := by decide +kernel
theorem dL_law_579 : decode cL_law 579 = .ok (.aload_n 1, 1) := by decide +kernel
theorem dL_law_580 : decode cL_law 580 = .ok (.iload 18, 2) := by decide +kernel
theorem dL_law_582 : decode cL_law 582 = .ok (.invokevirtual 124, 3) := by decide +kernel
theorem dL_law_585 : decode cL_law 585 = .ok (.ifCond .eq 5, 3) := by decide +kernel
theorem dL_law_588 : decode cL_law 588 = .ok (.iconst 0, 1) := by decide +kernel
theorem dL_law_589 : decode cL_law 589 = .ok (.ireturn, 1) := by decide +kernel
theorem dL_law_590 : decode cL_law 590 = .ok (.aload 6, 2) := by decide +kernel
theorem dL_law_592 : decode cL_law 592 = .ok (.iload 18, 2) := by decide +kernel
theorem dL_law_594 : decode cL_law 594 = .ok (.aaload, 1) := by decide +kernel
theorem dL_law_595 : decode cL_law 595 = .ok (.iconst 5, 1) := by decide +kernel
theorem dL_law_596 : decode cL_law 596 = .ok (.iaload, 1) := by decide +kernel
theorem dL_law_597 : decode cL_law 597 = .ok (.ifCond .ne 73, 3) := by decide +kernel
theorem dL_law_600 : decode cL_law 600 = .ok (.iload 19, 2) := by decide +kernel
theorem dL_law_602 : decode cL_law 602 = .ok (.aload 6, 2) := by decide +kernel
theorem dL_law_604 : decode cL_law 604 = .ok (.iload 18, 2) := by decide +kernel
theorem dL_law_606 : decode cL_law 606 = .ok (.aaload, 1) := by decide +kernel
theorem dL_law_607 : decode cL_law 607 = .ok (.iconst 0, 1) := by decide +kernel
theorem dL_law_608 : decode cL_law 608 = .ok (.iaload, 1) := by decide +kernel
theorem dL_law_609 : decode cL_law 609 = .ok (.if_icmp .ne 59, 3) := by decide +kernel
theorem dL_law_612 : decode cL_law 612 = .ok (.aload_n 1, 1) := by decide +kernel
theorem dL_law_613 : decode cL_law 613 = .ok (.iload 18, 2) := by decide +kernel
theorem dL_law_615 : decode cL_law 615 = .ok (.iconst 1, 1) := by decide +kernel
theorem dL_law_616 : decode cL_law 616 = .ok (.invokevirtual 118, 3) := by decide +kernel
theorem dL_law_619 : decode cL_law 619 = .ok (.aload 6, 2) := by decide +kernel
theorem dL_law_621 : decode cL_law 621 = .ok (.iload 18, 2) := by decide +kernel
theorem dL_law_623 : decode cL_law 623 = .ok (.aaload, 1) := by decide +kernel
theorem dL_law_624 : decode cL_law 624 = .ok (.iconst 1, 1) := by decide +kernel
theorem dL_law_625 : decode cL_law 625 = .ok (.iaload, 1) := by decide +kernel
theorem dL_law_626 : decode cL_law 626 = .ok (.if_icmp .ne 42, 3) := by decide +kernel
theorem dL_law_629 : decode cL_law 629 = .ok (.aload_n 1, 1) := by decide +kernel
theorem dL_law_630 : decode cL_law 630 = .ok (.iload 18, 2) := by decide +kernel
theorem dL_law_632 : decode cL_law 632 = .ok (.iconst 2, 1) := by decide +kernel
theorem dL_law_633 : decode cL_law 633 = .ok (.invokevirtual 118, 3) := by decide +kernel
theorem dL_law_636 : decode cL_law 636 = .ok (.aload 6, 2) := by decide +kernel
theorem dL_law_638 : decode cL_law 638 = .ok (.iload 18, 2) := by decide +kernel
theorem dL_law_640 : decode cL_law 640 = .ok (.aaload, 1) := by decide +kernel
theorem dL_law_641 : decode cL_law 641 = .ok (.iconst 2, 1) := by decide +kernel
theorem dL_law_642 : decode cL_law 642 = .ok (.iaload, 1) := by decide +kernel
theorem dL_law_643 : decode cL_law 643 = .ok (.if_icmp .ne 25, 3) := by decide +kernel
theorem dL_law_646 : decode cL_law 646 = .ok (.aload_n 1, 1) := by decide +kernel
theorem dL_law_647 : decode cL_law 647 = .ok (.iload 18, 2) := by decide +kernel
theorem dL_law_649 : decode cL_law 649 = .ok (.iconst 3, 1) := by decide +kernel
theorem dL_law_650 : decode cL_law 650 = .ok (.invokevirtual 118, 3) := by decide +kernel
theorem dL_law_653 : decode cL_law 653 = .ok (.aload 6, 2) := by decide +kernel
theorem dL_law_655 : decode cL_law 655 = .ok (.iload 18, 2) := by decide +kernel
theorem dL_law_657 : decode cL_law 657 = .ok (.aaload, 1) := by decide +kernel
theorem dL_law_658 : decode cL_law 658 = .ok (.iconst 3, 1) := by decide +kernel
theorem dL_law_659 : decode cL_law 659 = .ok (.iaload, 1) := by decide +kernel
theorem dL_law_660 : decode cL_law 660 = .ok (.if_icmp .ne 8, 3) := by decide +kernel
theorem dL_law_663 : decode cL_law 663 = .ok (.iload 20, 2) := by decide +kernel
theorem dL_law_665 : decode cL_law 665 = .ok (.ifCond .eq 298, 3) := by decide +kernel
theorem dL_law_668 : decode cL_law 668 = .ok (.iconst 0, 1) := by decide +kernel
theorem dL_law_669 : decode cL_law 669 = .ok (.ireturn, 1) := by decide +kernel
theorem dL_law_670 : decode cL_law 670 = .ok (.aload 6, 2) := by decide +kernel
theorem dL_law_672 : decode cL_law 672 = .ok (.iload 18, 2) := by decide +kernel
theorem dL_law_674 : decode cL_law 674 = .ok (.aaload, 1) := by decide +kernel
theorem dL_law_675 : decode cL_law 675 = .ok (.iconst 1, 1) := by decide +kernel
theorem dL_law_676 : decode cL_law 676 = .ok (.iaload, 1) := by decide +kernel
theorem dL_law_677 : decode cL_law 677 = .ok (.aload 6, 2) := by decide +kernel
theorem dL_law_679 : decode cL_law 679 = .ok (.iload 18, 2) := by decide +kernel
theorem dL_law_681 : decode cL_law 681 = .ok (.aaload, 1) := by decide +kernel
theorem dL_law_682 : decode cL_law 682 = .ok (.bipush 6, 2) := by decide +kernel
theorem dL_law_684 : decode cL_law 684 = .ok (.iaload, 1) := by decide +kernel
theorem dL_law_685 : decode cL_law 685 = .ok (.iadd, 1) := by decide +kernel
theorem dL_law_686 : decode cL_law 686 = .ok (.istore 21, 2) := by decide +kernel
theorem dL_law_688 : decode cL_law 688 = .ok (.aload 6, 2) := by decide +kernel
theorem dL_law_690 : decode cL_law 690 = .ok (.iload 18, 2) := by decide +kernel
theorem dL_law_692 : decode cL_law 692 = .ok (.aaload, 1) := by decide +kernel
theorem dL_law_693 : decode cL_law 693 = .ok (.iconst 0, 1) := by decide +kernel
theorem dL_law_694 : decode cL_law 694 = .ok (.iaload, 1) := by decide +kernel
theorem dL_law_695 : decode cL_law 695 = .ok (.iload 21, 2) := by decide +kernel
theorem dL_law_697 : decode cL_law 697 = .ok (.sipush 900, 3) := by decide +kernel
theorem dL_law_700 : decode cL_law 700 = .ok (.idiv, 1) := by decide +kernel
theorem dL_law_701 : decode cL_law 701 = .ok (.iadd, 1) := by decide +kernel
theorem dL_law_702 : decode cL_law 702 = .ok (.sipush 720, 3) := by decide +kernel
theorem dL_law_705 : decode cL_law 705 = .ok (.irem, 1) := by decide +kernel
theorem dL_law_706 : decode cL_law 706 = .ok (.istore 22, 2) := by decide +kernel
theorem dL_law_708 : decode cL_law 708 = .ok (.iload 19, 2) := by decide +kernel
theorem dL_law_710 : decode cL_law 710 = .ok (.iload 22, 2) := by decide +kernel
theorem dL_law_712 : decode cL_law 712 = .ok (.if_icmp .ne 99, 3) := by decide +kernel
theorem dL_law_715 : decode cL_law 715 = .ok (.aload_n 1, 1) := by decide +kernel
theorem dL_law_716 : decode cL_law 716 = .ok (.iload 18, 2) := by decide +kernel
theorem dL_law_718 : decode cL_law 718 = .ok (.iconst 1, 1) := by decide +kernel
theorem dL_law_719 : decode cL_law 719 = .ok (.invokevirtual 118, 3) := by decide +kernel
theorem dL_law_722 : decode cL_law 722 = .ok (.iload 21, 2) := by decide +kernel
theorem dL_law_724 : decode cL_law 724 = .ok (.sipush 900, 3) := by decide +kernel
theorem dL_law_727 : decode cL_law 727 = .ok (.irem, 1) := by decide +kernel
theorem dL_law_728 : decode cL_law 728 = .ok (.if_icmp .ne 83, 3) := by decide +kernel
theorem dL_law_731 : decode cL_law 731 = .ok (.aload_n 1, 1) := by decide +kernel
theorem dL_law_732 : decode cL_law 732 = .ok (.iload 18, 2) := by decide +kernel
theorem dL_law_734 : decode cL_law 734 = .ok (.iconst 2, 1) := by decide +kernel
theorem dL_law_735 : decode cL_law 735 = .ok (.invokevirtual 118, 3) := by decide +kernel
theorem dL_law_738 : decode cL_law 738 = .ok (.aload 6, 2) := by decide +kernel
theorem dL_law_740 : decode cL_law 740 = .ok (.iload 18, 2) := by decide +kernel
theorem dL_law_742 : decode cL_law 742 = .ok (.aaload, 1) := by decide +kernel
theorem dL_law_743 : decode cL_law 743 = .ok (.iconst 2, 1) := by decide +kernel
theorem dL_law_744 : decode cL_law 744 = .ok (.iaload, 1) := by decide +kernel
theorem dL_law_745 : decode cL_law 745 = .ok (.iconst 1, 1) := by decide +kernel
theorem dL_law_746 : decode cL_law 746 = .ok (.isub, 1) := by decide +kernel
theorem dL_law_747 : decode cL_law 747 = .ok (.if_icmp .ne 64, 3) := by decide +kernel
theorem dL_law_750 : decode cL_law 750 = .ok (.aload_n 1, 1) := by decide +kernel
theorem dL_law_751 : decode cL_law 751 = .ok (.iload 18, 2) := by decide +kernel
theorem dL_law_753 : decode cL_law 753 = .ok (.iconst 3, 1) := by decide +kernel
theorem dL_law_754 : decode cL_law 754 = .ok (.invokevirtual 118, 3) := by decide +kernel
theorem dL_law_757 : decode cL_law 757 = .ok (.iconst 0, 1) := by decide +kernel
theorem dL_law_758 : decode cL_law 758 = .ok (.aload 6, 2) := by decide +kernel
theorem dL_law_760 : decode cL_law 760 = .ok (.iload 18, 2) := by decide +kernel
theorem dL_law_762 : decode cL_law 762 = .ok (.aaload, 1) := by decide +kernel
theorem dL_law_763 : decode cL_law 763 = .ok (.iconst 3, 1) := by decide +kernel
theorem dL_law_764 : decode cL_law 764 = .ok (.iaload, 1) := by decide +kernel
theorem dL_law_765 : decode cL_law 765 = .ok (.iload 9, 2) := by decide +kernel
theorem dL_law_767 : decode cL_law 767 = .ok (.bipush 10, 2) := by decide +kernel
theorem dL_law_769 : decode cL_law 769 = .ok (.irem, 1) := by decide +kernel
theorem dL_law_770 : decode cL_law 770 = .ok (.ifCond .ne 7, 3) := by decide +kernel
theorem dL_law_773 : decode cL_law 773 = .ok (.iconst 1, 1) := by decide +kernel
theorem dL_law_774 : decode cL_law 774 = .ok (.goto 4, 3) := by decide +kernel
theorem dL_law_777 : decode cL_law 777 = .ok (.iconst 0, 1) := by decide +kernel
theorem dL_law_778 : decode cL_law 778 = .ok (.isub, 1) := by decide +kernel
theorem dL_law_779 : decode cL_law 779 = .ok (.invokestatic 130, 3) := by decide +kernel
theorem dL_law_782 : decode cL_law 782 = .ok (.if_icmp .ne 29, 3) := by decide +kernel
theorem dL_law_785 : decode cL_law 785 = .ok (.aload_n 1, 1) := by decide +kernel
theorem dL_law_786 : decode cL_law 786 = .ok (.iload 18, 2) := by decide +kernel
theorem dL_law_788 : decode cL_law 788 = .ok (.iconst 5, 1) := by decide +kernel
theorem dL_law_789 : decode cL_law 789 = .ok (.invokevirtual 118, 3) := by decide +kernel
theorem dL_law_792 : decode cL_law 792 = .ok (.aload 6, 2) := by decide +kernel
theorem dL_law_794 : decode cL_law 794 = .ok (.iload 18, 2) := by decide +kernel
theorem dL_law_796 : decode cL_law 796 = .ok (.aaload, 1) := by decide +kernel
theorem dL_law_797 : decode cL_law 797 = .ok (.iconst 2, 1) := by decide +kernel
theorem dL_law_798 : decode cL_law 798 = .ok (.iaload, 1) := by decide +kernel
theorem dL_law_799 : decode cL_law 799 = .ok (.iconst 1, 1) := by decide +kernel
theorem dL_law_800 : decode cL_law 800 = .ok (.if_icmp .le 7, 3) := by decide +kernel
theorem dL_law_803 : decode cL_law 803 = .ok (.iconst 1, 1) := by decide +kernel
theorem dL_law_804 : decode cL_law 804 = .ok (.goto 4, 3) := by decide +kernel
theorem dL_law_807 : decode cL_law 807 = .ok (.iconst 0, 1) := by decide +kernel
theorem dL_law_808 : decode cL_law 808 = .ok (.if_icmp .eq 5, 3) := by decide +kernel
theorem dL_law_811 : decode cL_law 811 = .ok (.iconst 0, 1) := by decide +kernel
theorem dL_law_812 : decode cL_law 812 = .ok (.ireturn, 1) := by decide +kernel
theorem dL_law_813 : decode cL_law 813 = .ok (.iconst 0, 1) := by decide +kernel
theorem dL_law_814 : decode cL_law 814 = .ok (.istore 23, 2) := by decide +kernel
theorem dL_law_816 : decode cL_law 816 = .ok (.iconst 1, 1) := by decide +kernel
theorem dL_law_817 : decode cL_law 817 = .ok (.istore 24, 2) := by decide +kernel
theorem dL_law_819 : decode cL_law 819 = .ok (.iload 24, 2) := by decide +kernel
theorem dL_law_821 : decode cL_law 821 = .ok (.iload 21, 2) := by decide +kernel
theorem dL_law_823 : decode cL_law 823 = .ok (.sipush 900, 3) := by decide +kernel
theorem dL_law_826 : decode cL_law 826 = .ok (.idiv, 1) := by decide +kernel
theorem dL_law_827 : decode cL_law 827 = .ok (.if_icmp .gt 80, 3) := by decide +kernel
theorem dL_law_830 : decode cL_law 830 = .ok (.aload 6, 2) := by decide +kernel
theorem dL_law_832 : decode cL_law 832 = .ok (.iload 18, 2) := by decide +kernel
theorem dL_law_834 : decode cL_law 834 = .ok (.aaload, 1) := by decide +kernel
theorem dL_law_835 : decode cL_law 835 = .ok (.iconst 0, 1) := by decide +kernel
theorem dL_law_836 : decode cL_law 836 = .ok (.iaload, 1) := by decide +kernel
theorem dL_law_837 : decode cL_law 837 = .ok (.iload 24, 2) := by decide +kernel
theorem dL_law_839 : decode cL_law 839 = .ok (.iadd, 1) := by decide +kernel
theorem dL_law_840 : decode cL_law 840 = .ok (.sipush 720, 3) := by decide +kernel
theorem dL_law_843 : decode cL_law 843 = .ok (.irem, 1) := by decide +kernel
theorem dL_law_844 : decode cL_law 844 = .ok (.istore 25, 2) := by decide +kernel
theorem dL_law_846 : decode cL_law 846 = .ok (.iload 25, 2) := by decide +kernel
theorem dL_law_848 : decode cL_law 848 = .ok (.bipush 30, 2) := by decide +kernel
theorem dL_law_850 : decode cL_law 850 = .ok (.irem, 1) := by decide +kernel
theorem dL_law_851 : decode cL_law 851 = .ok (.ifCond .ne 50, 3) := by decide +kernel
theorem dL_law_854 : decode cL_law 854 = .ok (.aload_n 2, 1) := by decide +kernel
theorem dL_law_855 : decode cL_law 855 = .ok (.getfield 9, 3) := by decide +kernel
theorem dL_law_858 : decode cL_law 858 = .ok (.iload 18, 2) := by decide +kernel
theorem dL_law_860 : decode cL_law 860 = .ok (.aaload, 1) := by decide +kernel
theorem dL_law_861 : decode cL_law 861 = .ok (.iload 25, 2) := by decide +kernel
theorem dL_law_863 : decode cL_law 863 = .ok (.invokevirtual 135, 3) := by decide +kernel
theorem dL_law_866 : decode cL_law 866 = .ok (.ifCond .ne 35, 3) := by decide +kernel
theorem dL_law_869 : decode cL_law 869 = .ok (.iload 23, 2) := by decide +kernel
theorem dL_law_871 : decode cL_law 871 = .ok (.iload 25, 2) := by decide +kernel
theorem dL_law_873 : decode cL_law 873 = .ok (.ifCond .ne 8, 3) := by decide +kernel
theorem dL_law_876 : decode cL_law 876 = .ok (.bipush 12, 2) := by decide +kernel
theorem dL_law_878 : decode cL_law 878 = .ok (.goto 20, 3) := by decide +kernel
theorem dL_law_881 : decode cL_law 881 = .ok (.iload 25, 2) := by decide +kernel
theorem dL_law_883 : decode cL_law 883 = .ok (.bipush 60, 2) := by decide +kernel
theorem dL_law_885 : decode cL_law 885 = .ok (.irem, 1) := by decide +kernel
theorem dL_law_886 : decode cL_law 886 = .ok (.ifCond .ne 11, 3) := by decide +kernel
theorem dL_law_889 : decode cL_law 889 = .ok (.iload 25, 2) := by decide +kernel
theorem dL_law_891 : decode cL_law 891 = .ok (.bipush 60, 2) := by decide +kernel
theorem dL_law_893 : decode cL_law 893 = .ok (.idiv, 1) := by decide +kernel
theorem dL_law_894 : decode cL_law 894 = .ok (.goto 4, 3) := by decide +kernel
theorem dL_law_897 : decode cL_law 897 = .ok (.iconst 1, 1) := by decide +kernel
theorem dL_law_898 : decode cL_law 898 = .ok (.iadd, 1) := by decide +kernel
theorem dL_law_899 : decode cL_law 899 = .ok (.istore 23, 2) := by decide +kernel
theorem dL_law_901 : decode cL_law 901 = .ok (.iinc 24 1, 3) := by decide +kernel
theorem dL_law_904 : decode cL_law 904 = .ok (.goto (-85), 3) := by decide +kernel
theorem dL_law_907 : decode cL_law 907 = .ok (.iload 20, 2) := by decide +kernel
theorem dL_law_909 : decode cL_law 909 = .ok (.aload_n 1, 1) := by decide +kernel
theorem dL_law_910 : decode cL_law 910 = .ok (.iload 18, 2) := by decide +kernel
theorem dL_law_912 : decode cL_law 912 = .ok (.bipush 8, 2) := by decide +kernel
theorem dL_law_914 : decode cL_law 914 = .ok (.invokevirtual 118, 3) := by decide +kernel
theorem dL_law_917 : decode cL_law 917 = .ok (.iadd, 1) := by decide +kernel
theorem dL_law_918 : decode cL_law 918 = .ok (.aload 6, 2) := by decide +kernel
theorem dL_law_920 : decode cL_law 920 = .ok (.iload 18, 2) := by decide +kernel
theorem dL_law_922 : decode cL_law 922 = .ok (.aaload, 1) := by decide +kernel
theorem dL_law_923 : decode cL_law 923 = .ok (.bipush 8, 2) := by decide +kernel
theorem dL_law_925 : decode cL_law 925 = .ok (.iaload, 1) := by decide +kernel
theorem dL_law_926 : decode cL_law 926 = .ok (.isub, 1) := by decide +kernel
theorem dL_law_927 : decode cL_law 927 = .ok (.iload 23, 2) := by decide +kernel
theorem dL_law_929 : decode cL_law 929 = .ok (.if_icmp .ne 32, 3) := by decide +kernel
theorem dL_law_932 : decode cL_law 932 = .ok (.aload_n 1, 1) := by decide +kernel
theorem dL_law_933 : decode cL_law 933 = .ok (.iload 18, 2) := by decide +kernel
theorem dL_law_935 : decode cL_law 935 = .ok (.bipush 8, 2) := by decide +kernel
theorem dL_law_937 : decode cL_law 937 = .ok (.invokevirtual 118, 3) := by decide +kernel
theorem dL_law_940 : decode cL_law 940 = .ok (.aload 6, 2) := by decide +kernel
theorem dL_law_942 : decode cL_law 942 = .ok (.iload 18, 2) := by decide +kernel
theorem dL_law_944 : decode cL_law 944 = .ok (.aaload, 1) := by decide +kernel
theorem dL_law_945 : decode cL_law 945 = .ok (.bipush 8, 2) := by decide +kernel
theorem dL_law_947 : decode cL_law 947 = .ok (.iaload, 1) := by decide +kernel
theorem dL_law_948 : decode cL_law 948 = .ok (.if_icmp .le 15, 3) := by decide +kernel
theorem dL_law_951 : decode cL_law 951 = .ok (.aload_n 1, 1) := by decide +kernel
theorem dL_law_952 : decode cL_law 952 = .ok (.iload 18, 2) := by decide +kernel
theorem dL_law_954 : decode cL_law 954 = .ok (.iconst 4, 1) := by decide +kernel
theorem dL_law_955 : decode cL_law 955 = .ok (.invokevirtual 118, 3) := by decide +kernel
theorem dL_law_958 : decode cL_law 958 = .ok (.ifCond .eq 5, 3) := by decide +kernel
theorem dL_law_961 : decode cL_law 961 = .ok (.iconst 0, 1) := by decide +kernel
theorem dL_law_962 : decode cL_law 962 = .ok (.ireturn, 1) := by decide +kernel
theorem dL_law_963 : decode cL_law 963 = .ok (.iinc 18 1, 3) := by decide +kernel
theorem dL_law_966 : decode cL_law 966 = .ok (.goto (-625), 3) := by decide +kernel
theorem dL_law_969 : decode cL_law 969 = .ok (.iload 15, 2) := by decide +kernel
theorem dL_law_971 : decode cL_law 971 = .ok (.iload 14, 2) := by decide +kernel
theorem dL_law_973 : decode cL_law 973 = .ok (.if_icmp .ne 34, 3) := by decide +kernel
theorem dL_law_976 : decode cL_law 976 = .ok (.iload 16, 2) := by decide +kernel
theorem dL_law_978 : decode cL_law 978 = .ok (.iload 11, 2) := by decide +kernel
theorem dL_law_980 : decode cL_law 980 = .ok (.if_icmp .ne 27, 3) := by decide +kernel
theorem dL_law_983 : decode cL_law 983 = .ok (.aload_n 1, 1) := by decide +kernel
theorem dL_law_984 : decode cL_law 984 = .ok (.invokevirtual 139, 3) := by decide +kernel
theorem dL_law_987 : decode cL_law 987 = .ok (.iload 12, 2) := by decide +kernel
theorem dL_law_989 : decode cL_law 989 = .ok (.ifCond .ne 7, 3) := by decide +kernel
theorem dL_law_992 : decode cL_law 992 = .ok (.dconst 0, 1) := by decide +kernel
theorem dL_law_993 : decode cL_law 993 = .ok (.goto 10, 3) := by decide +kernel
theorem dL_law_996 : decode cL_law 996 = .ok (.iload 17, 2) := by decide +kernel
theorem dL_law_998 : decode cL_law 998 = .ok (.i2d, 1) := by decide +kernel
theorem dL_law_999 : decode cL_law 999 = .ok (.iload 12, 2) := by decide +kernel
theorem dL_law_1001 : decode cL_law 1001 = .ok (.i2d, 1) := by decide +kernel
theorem dL_law_1002 : decode cL_law 1002 = .ok (.ddiv, 1) := by decide +kernel
theorem dL_law_1003 : decode cL_law 1003 = .ok (.dcmp .l, 1) := by decide +kernel
theorem dL_law_1004 : decode cL_law 1004 = .ok (.ifCond .eq 5, 3) := by decide +kernel
theorem dL_law_1007 : decode cL_law 1007 = .ok (.iconst 0, 1) := by decide +kernel
theorem dL_law_1008 : decode cL_law 1008 = .ok (.ireturn, 1) := by decide +kernel
theorem dL_law_1009 : decode cL_law 1009 = .ok (.iinc 3 1, 3) := by decide +kernel
theorem dL_law_1012 : decode cL_law 1012 = .ok (.goto (-990), 3) := by decide +kernel
theorem dL_law_1015 : decode cL_law 1015 = .ok (.aload_n 2, 1) := by decide +kernel
theorem dL_law_1016 : decode cL_law 1016 = .ok (.aload_n 1, 1) := by decide +kernel
theorem dL_law_1017 : decode cL_law 1017 = .ok (.invokevirtual 143, 3) := by decide +kernel
theorem dL_law_1020 : decode cL_law 1020 = .ok (.ireturn, 1) := by decide +kernel
end
section
/-! THE FORMS: worlds, contracts, calls, in which every method of this claim is said (my own) -/
/-- a clock's cell: its numbers K, by the places 0 shown, 1 rest, 2 chain, 3 oil, 4 bellows, 5 goes, 6 calls, 7 missed, 8 latest, 9 a, 10 b, 11 swing, 12 from, 13 till -/
abbrev cu_ck (K : Nat → Int32) : List Value := [.int (K 9), .int (K 10), .int (K 11), .int (K 2), .int (K 3), .int (K 4), .int (K 5), .int (K 0), .int (K 1), .int (K 12), .int (K 13), .int (K 6), .int (K 7), .int (K 8)]
abbrev cu_wc (h : Nat) (K : Nat → Int32) : va_W := [(h, .inr (0, cu_ck K))]
def cu_row (a : Nat → Nat) (b : Nat) (K : Nat → Nat → Int32) : va_W := (List.range 10).map (fun i => (a (b + i), .inr (0, cu_ck (K i))))
/-- the shop: its object, its two rows, twenty clocks -/
def cu_cw (C : Nat → ClassId) (a : Nat → Nat) (n m : Int32) (K P : Nat → Nat → Int32) : va_W :=
  (a 0, .inr (1, [.ref (a 1), .ref (a 2), .int n, .int m])) :: (a 1, .inl (C 1, 10, .inr (.inr (.inr (.inr (fun i => some (a (3 + i)))))))) :: (a 2, .inl (C 1, 10, .inr (.inr (.inr (.inr (fun i => some (a (13 + i)))))))) :: (cu_row a 3 K ++ cu_row a 13 P)
abbrev cu_tys (C : Nat → ClassId) : List (ClassId × FieldType) := [(C 0, .int), (C 1, .object "CuckooShop$Clock"), (C 2, .object "CuckooShopLaw$Clock"), (C 3, .array .int)]
/-- links of nest mates, what may be cast and what not, texts: what a callee's list of words doesn't bear -/
def cu_nestM : List (Nat × MethodName) := [(18, yX0_init), (37, yX0_putHands), (54, yX0_fitTrain), (58, yX0_advance), (66, yX0_drawUp), (69, yX0_fillOil), (72, yX0_patchBellows), (75, yX0_nudge), (82, yX0_silence), (91, yX0_reading), (107, yX0_copyFrom), (111, yX0_runMinute), (117, yX0_minutesToStand)]
def cu_nestF : List (Nat × String × String) := [(114, "latestCalls", "I"), (134, "goes", "Z"), (157, "shown", "I")]
def cu_casts : List (String × String) := [("java/lang/IllegalArgumentException", "java/lang/IllegalArgumentException"), ("java/lang/IllegalStateException", "java/lang/IllegalStateException"), ("java/lang/IndexOutOfBoundsException", "java/lang/IndexOutOfBoundsException")]
def cu_nestL : List (String × Nat × MethodName) := [(RX3, 24, yX2_init), (RL, 93, yX3_init)]
def cu_txts : List (Nat × String) := [(32, "there are 10 clocks"), (49, "a gear has 20 to 40 teeth"), (52, "a pendulum is -20 to 20"), (78, "what is mended is 0 to 2"), (80, "till is 0 if from is -1"), (88, "what is told of a clock is 0 to 10"), (95, "what is counted is 0 to 7"), (123, "what is foreseen is 0 to 3"), (146, "there is no such clock"), (148, "a time of the dial is 0 to 719"), (150, "minutes are 1 to 720")]
def cu_decls : List MethodName := [⟨"java/lang/RuntimeException", "<init>", "(Ljava/lang/String;)V"⟩, ⟨"java/lang/Exception", "<init>", "(Ljava/lang/String;)V"⟩, ⟨"java/lang/Throwable", "<init>", "(Ljava/lang/String;)V"⟩]
def cu_AO (U : State) : Prop := (Cond.arrayOver (.array .int)).before #[] U = true
theorem cu_AO.use {A : Array Value} {U : State} (h : cu_AO U) : (Cond.arrayOver (.array .int)).before A U = true := h
theorem cu_AO.moved {u U : State} (hvm : u.vm.Alike U.vm) (h : cu_AO u) : cu_AO U := by
  unfold cu_AO Cond.before Cond.holds at h ⊢
  simp only [Cond.value] at h ⊢
  obtain ⟨comp, h1, h2⟩ := Option.bind_eq_some_iff.mp (beq_iff_eq.mp h)
  obtain ⟨c, h3, h4⟩ := Option.bind_eq_some_iff.mp h2
  obtain ⟨k, h5, h6⟩ := Option.map_eq_some_iff.mp h4
  obtain ⟨k', hk', he⟩ := hvm.2.2 _ _ h5
  have hq := va_idx_bare U.vm comp
  first | rw [hvm.bare_eq] at hq | rw [← hvm.bare_eq] at hq
  have hi := hq.symm.trans ((va_idx_bare u.vm comp).trans h3)
  have hkind : k'.kind = k.kind := by rw [he]
  refine beq_iff_eq.mpr (Option.bind_eq_some_iff.mpr ⟨comp, by rw [hvm.findClass]; exact h1, Option.bind_eq_some_iff.mpr ⟨c, hi, Option.map_eq_some_iff.mpr ⟨k', hk', ?_⟩⟩⟩)
  rw [hkind, hvm.findClass]
  exact h6
/-- what the tables say, for every method alike -/
def cu_G (D : va_G) (C : Nat → ClassId) (U : State) : Prop :=
  va_K D vwCl (cu_tys C) U ∧ (∀ q ∈ cu_nestM, va_Nw (.methodLinkNest RX1 q.1 q.2 RX1) U) ∧ (∀ q ∈ cu_nestF, va_Nw (.fieldLinkNest RX1 q.1 RX0 q.2.1 q.2.2 RX1) U) ∧ (∀ q ∈ cu_casts, va_Nw (.castable q.1 q.2) U) ∧ (∀ q ∈ cu_nestL, va_Nw (.methodLinkNest q.1 q.2.1 q.2.2 RL) U) ∧ (∀ q ∈ cu_txts, ∃ a : Nat, vk_R RX1 q.1 q.2 a U) ∧ (∀ q ∈ cu_decls, va_Nw (.declares q) U) ∧ cu_AO U ∧ va_AO "CuckooShop$Clock" U ∧ va_AO "CuckooShopLaw$Clock" U
theorem cu_G.warm {D : va_G} {C : Nat → ClassId} {s U : State} (hW : s.WarmedH U.vm) (h : cu_G D C s) : cu_G D C U := by
  obtain ⟨h1, h2, h3, h4, h5, h6, h7, h8, h9, h10⟩ := h
  refine ⟨h1.moved hW.alike, fun q hq => va_Nw.warmM hW (h2 q hq), fun q hq => va_Nw.warmF hW (h3 q hq), fun q hq => va_Nw.warmC hW (h4 q hq), fun q hq => va_Nw.warmM hW (h5 q hq), fun q hq => ?_, fun q hq => va_Nw.warmD hW (h7 q hq), h8.moved hW.alike, va_AO.moved hW.alike h9, va_AO.moved hW.alike h10⟩
  obtain ⟨a, ha⟩ := h6 q hq
  exact ⟨a, ha.warm hW⟩
theorem cu_G.same {D : va_G} {C : Nat → ClassId} {s U : State} (hv : U.vm = s.vm) (h : cu_G D C s) : cu_G D C U := by
  obtain ⟨h1, h2, h3, h4, h5, h6, h7, h8, h9, h10⟩ := h
  have ha : s.vm.Alike U.vm := by rw [hv]; exact Vm.Alike.refl _
  refine ⟨h1.moved ha, fun q hq => va_Nw.same rfl hv.symm (h2 q hq), fun q hq => va_Nw.same rfl hv.symm (h3 q hq), fun q hq => va_Nw.same rfl hv.symm (h4 q hq), fun q hq => va_Nw.same rfl hv.symm (h5 q hq), fun q hq => ?_, fun q hq => va_Nw.same rfl hv.symm (h7 q hq), h8.moved ha, va_AO.moved ha h9, va_AO.moved ha h10⟩
  obtain ⟨a, hb⟩ := h6 q hq
  exact ⟨a, vk_R.same hv hb⟩
/-- a method's start -/
def cu_B (D : va_G) (C : Nat → ClassId) (w : va_W) (sz : Nat) (U : State) : Prop := U.heap.size = sz ∧ va_P D vwCl w U.heap ∧ va_D (fun _ => True) w ∧ cu_G D C U
theorem cu_blind {D : va_G} {C : Nat → ClassId} {w : va_W} {sz : Nat} {av : List Value} : FrameBlind (va_Pc av (cu_B D C w sz)) := by
  intro a U g mk q
  obtain ⟨q0, q1, q2, q3, q4⟩ := q
  exact ⟨q0, q1, q2, q3, cu_G.same (s := U) (U := U.calling g mk a) rfl q4⟩
/-! worlds in worlds -/
theorem cu_Diff {A : Nat → Prop} {w : va_W} : va_D A w ↔ (w.map Prod.fst).Nodup ∧ ∀ q ∈ w, A q.1 := by
  constructor
  · intro h
    refine ⟨?_, fun q hq => ?_⟩
    · refine List.pairwise_iff_getElem.mpr ?_
      intro i j hi hj hij he
      rw [List.length_map] at hi hj
      rw [List.getElem_map, List.getElem_map] at he
      have := h.1 i j w[i] w[j] (List.getElem?_eq_getElem hi) (List.getElem?_eq_getElem hj) he
      omega
    · obtain ⟨k, hk⟩ := List.getElem?_of_mem hq
      exact h.2 k q hk
  · intro ⟨h1, h2⟩
    refine ⟨fun i j p q hi hj he => ?_, fun k q hk => h2 q (List.mem_of_getElem? hk)⟩
    have h3 := List.pairwise_iff_getElem.mp h1
    obtain ⟨hil, ei⟩ := List.getElem?_eq_some_iff.mp hi
    obtain ⟨hjl, ej⟩ := List.getElem?_eq_some_iff.mp hj
    have hil' : i < (w.map Prod.fst).length := by rw [List.length_map]; exact hil
    have hjl' : j < (w.map Prod.fst).length := by rw [List.length_map]; exact hjl
    rcases Nat.lt_trichotomy i j with q9 | q9 | q9
    · exact absurd (by rw [List.getElem_map, List.getElem_map, ei, ej]; exact he) (h3 i j hil' hjl' q9)
    · exact q9
    · exact absurd (by rw [List.getElem_map, List.getElem_map, ei, ej]; exact he.symm) (h3 j i hjl' hil' q9)
/-- w lies in W0; with w' in its place that is W1 -/
def cu_sp (W0 w W1 w' : va_W) : Prop :=
  (∀ q ∈ w, q ∈ W0) ∧ ((W0.map Prod.fst).Nodup → (w.map Prod.fst).Nodup) ∧ W1.map Prod.fst = W0.map Prod.fst ∧ ((W0.map Prod.fst).Nodup → ∀ q ∈ W1, q ∈ w' ∨ (q ∈ W0 ∧ q.1 ∉ w.map Prod.fst))
theorem cu_sp.fst {W0 w W1 w' : va_W} (h : cu_sp W0 w W1 w') : W1.map Prod.fst = W0.map Prod.fst := h.2.2.1
theorem cu_D_fst {A : Nat → Prop} {W0 W1 : va_W} (h : W1.map Prod.fst = W0.map Prod.fst) (hD : va_D A W0) : va_D A W1 := by
  rw [cu_Diff] at hD ⊢
  refine ⟨by rw [h]; exact hD.1, fun q hq => ?_⟩
  have : q.1 ∈ W0.map Prod.fst := by rw [← h]; exact List.mem_map_of_mem hq
  obtain ⟨z, hz, e⟩ := List.mem_map.mp this
  rw [← e]
  exact hD.2 z hz
theorem cu_sp.P {D : va_G} {cl : List vw_C} {W0 w W1 w' : va_W} {H : Heap} (h : cu_sp W0 w W1 w') (hP : va_P D cl W0 H) : va_P D cl w H := fun k q hk => by
  obtain ⟨i, hi⟩ := List.getElem?_of_mem (h.1 q (List.mem_of_getElem? hk))
  exact hP i q hi
theorem cu_sp.D {A : Nat → Prop} {W0 w W1 w' : va_W} (h : cu_sp W0 w W1 w') (hD : va_D A W0) : va_D A w := by
  rw [cu_Diff] at hD ⊢
  exact ⟨h.2.1 hD.1, fun q hq => hD.2 q (h.1 q hq)⟩
theorem cu_sp.F {A : Nat → Prop} {W0 w W1 w' : va_W} {H0 H : Heap} {locs : List Loc} (h : cu_sp W0 w W1 w') (hD : va_D A W0) (hS : va_S A H0 H locs) (hA : ∀ q, H0.size ≤ q → A q) : ∀ q, va_A w H.size q → A q := by
  intro q hq
  rcases hq with ⟨k, e, hk⟩ | hq
  · exact (h.D hD).2 k (q, e) hk
  · exact hA q (Nat.le_trans hS.1 hq)
theorem cu_sp.join {D : va_G} {cl : List vw_C} {A : Nat → Prop} {W0 w W1 w' : va_W} {H H1 : Heap} (h : cu_sp W0 w W1 w') (hP : va_P D cl W0 H) (hD : va_D A W0) (hk : ∀ q : Nat, q < H.size → ¬ va_A w H.size q → H1[q]? = H[q]?) (hP1 : va_P D cl w' H1) : va_P D cl W1 H1 := by
  intro k q hq
  have hn := (cu_Diff.mp hD).1
  rcases h.2.2.2 hn q (List.mem_of_getElem? hq) with h1 | ⟨h1, h2⟩
  · obtain ⟨i, hi⟩ := List.getElem?_of_mem h1
    exact hP1 i q hi
  · obtain ⟨i, hi⟩ := List.getElem?_of_mem h1
    have hl := (hP i q hi).lt
    refine (hP i q hi).kept (hk q.1 hl (fun z => ?_))
    rcases z with ⟨j, e, hj⟩ | z
    · exact h2 (List.mem_map.mpr ⟨_, List.mem_of_getElem? hj, rfl⟩)
    · omega
theorem cu_sp.all {W0 W1 : va_W} (h : W1.map Prod.fst = W0.map Prod.fst) : cu_sp W0 W0 W1 W1 := ⟨fun _ h => h, fun h => h, h, fun _ _ h => Or.inl h⟩
theorem cu_sp.nil {W0 : va_W} : cu_sp W0 [] W0 [] := ⟨fun _ h => absurd h List.not_mem_nil, fun _ => List.nodup_nil, rfl, fun _ _ h => Or.inr ⟨h, List.not_mem_nil⟩⟩
theorem cu_nd2 {W0 : va_W} (hn : (W0.map Prod.fst).Nodup) {i j : Nat} {p q : Nat × va_E} (hi : W0[i]? = some p) (hj : W0[j]? = some q) (e : p.1 = q.1) : i = j :=
  (cu_Diff.mpr ⟨hn, fun _ _ => trivial⟩ : va_D (fun _ => True) W0).1 i j p q hi hj e
theorem cu_sp.one {W0 : va_W} {k a : Nat} {e0 : va_E} (e1 : va_E) (h : W0[k]? = some (a, e0)) : cu_sp W0 [(a, e0)] (W0.set k (a, e1)) [(a, e1)] := by
  have hl := (List.getElem?_eq_some_iff.mp h).1
  refine ⟨fun q hq => ?_, fun _ => by simp, ?_, fun hn q hq => ?_⟩
  · rw [List.mem_singleton.mp hq]; exact List.mem_of_getElem? h
  · apply List.ext_getElem?
    intro i
    rw [List.getElem?_map, List.getElem?_map]
    by_cases hi : i = k
    · subst hi; rw [List.getElem?_set_self hl, h]; rfl
    · rw [List.getElem?_set_ne (Ne.symm hi)]
  · obtain ⟨i, hi⟩ := List.getElem?_of_mem hq
    by_cases hik : i = k
    · subst hik
      rw [List.getElem?_set_self hl] at hi
      exact Or.inl (by rw [← Option.some.inj hi]; exact List.mem_singleton_self _)
    · rw [List.getElem?_set_ne (Ne.symm hik)] at hi
      refine Or.inr ⟨List.mem_of_getElem? hi, fun hz => ?_⟩
      have hz' : q.1 = a := by simpa using hz
      exact hik (cu_nd2 hn hi h hz')
theorem cu_sp.rd {W0 : va_W} {k a : Nat} {e0 : va_E} (h : W0[k]? = some (a, e0)) : cu_sp W0 [(a, e0)] W0 [(a, e0)] := by
  have h1 := cu_sp.one e0 h
  have e : W0.set k (a, e0) = W0 := by
    apply List.ext_getElem?
    intro i
    by_cases hi : i = k
    · subst hi; rw [List.getElem?_set_self (List.getElem?_eq_some_iff.mp h).1, h]
    · rw [List.getElem?_set_ne (Ne.symm hi)]
  rw [e] at h1
  exact h1
theorem cu_sp.two {W0 : va_W} {k j a b : Nat} {e0 f0 : va_E} (e1 : va_E) (h : W0[k]? = some (a, e0)) (hj : W0[j]? = some (b, f0)) (hkj : k ≠ j) : cu_sp W0 [(a, e0), (b, f0)] (W0.set k (a, e1)) [(a, e1), (b, f0)] := by
  have h1 := cu_sp.one e1 h
  refine ⟨fun q hq => ?_, fun hn => ?_, h1.2.2.1, fun hn q hq => ?_⟩
  · rcases List.mem_cons.mp hq with e | hq
    · rw [e]; exact List.mem_of_getElem? h
    · rw [List.mem_singleton.mp hq]; exact List.mem_of_getElem? hj
  · have hab : a ≠ b := fun e => hkj (cu_nd2 hn h hj e)
    simp [hab]
  · rcases h1.2.2.2 hn q hq with hz | ⟨hz, hz2⟩
    · exact Or.inl (by rw [List.mem_singleton.mp hz]; exact List.mem_cons_self)
    · by_cases hb : q.1 = b
      · obtain ⟨i, hi⟩ := List.getElem?_of_mem hz
        have e9 := cu_nd2 hn hi hj hb
        subst e9
        rw [hj] at hi
        exact Or.inl (by rw [← Option.some.inj hi]; exact List.mem_cons_of_mem _ (List.mem_singleton_self _))
      · refine Or.inr ⟨hz, fun hm => ?_⟩
        have hm' : q.1 = a ∨ q.1 = b := by simpa using hm
        rcases hm' with e | e
        · exact hz2 (by simp [e])
        · exact hb e
theorem cu_sp.mid {X w w' Y : va_W} (h : w'.map Prod.fst = w.map Prod.fst) : cu_sp (X ++ (w ++ Y)) w (X ++ (w' ++ Y)) w' := by
  refine ⟨fun q hq => by simp [hq], fun hn => ?_, by simp [h], fun hn q hq => ?_⟩
  · rw [List.map_append, List.map_append] at hn
    exact (List.nodup_append.mp (List.nodup_append.mp hn).2.1).1
  · rw [List.map_append, List.map_append] at hn
    obtain ⟨-, hn2, hn3⟩ := List.nodup_append.mp hn
    obtain ⟨-, -, hn4⟩ := List.nodup_append.mp hn2
    rcases List.mem_append.mp hq with h1 | h1
    · refine Or.inr ⟨List.mem_append_left _ h1, fun hz => ?_⟩
      exact hn3 q.1 (List.mem_map_of_mem h1) q.1 (List.mem_append_left _ hz) rfl
    · rcases List.mem_append.mp h1 with h2 | h2
      · exact Or.inl h2
      · refine Or.inr ⟨by simp [h2], fun hz => ?_⟩
        exact hn4 q.1 hz q.1 (List.mem_map_of_mem h2) rfl
theorem cu_sp.pre {w w' Y : va_W} (h : w'.map Prod.fst = w.map Prod.fst) : cu_sp (w ++ Y) w (w' ++ Y) w' := cu_sp.mid (X := []) h
theorem cu_sp.suf {X w w' : va_W} (h : w'.map Prod.fst = w.map Prod.fst) : cu_sp (X ++ w) w (X ++ w') w' := by
  have h1 := cu_sp.mid (X := X) (Y := []) h
  simpa using h1
/-! contracts: from a world w to w', with the answer val -/
def cu_I (l : Launch) (D : va_G) (C : Nat → ClassId) (y : MethodName) (ws : List Cond) (rm : Room) (av : List Value) (w w' : va_W) (val : Int32) (mc ms : Nat) : Prop :=
  ∀ sz : Nat, Met l y ws rm (va_Pc av (cu_B D C w sz)) (va_Qi (fun (r : Int32) (_ : Unit) => r = val) (fun _ t => va_P D vwCl w' t.heap) (va_A w sz)) mc ms (va_A w sz)
def cu_V (l : Launch) (D : va_G) (C : Nat → ClassId) (y : MethodName) (ws : List Cond) (rm : Room) (av : List Value) (w w' : va_W) (mc ms : Nat) : Prop :=
  ∀ sz : Nat, Met l y ws rm (va_Pc av (cu_B D C w sz)) (va_Qv (fun (_ : Unit) => True) (fun _ t => va_P D vwCl w' t.heap) (va_A w sz)) mc ms (va_A w sz)
def cu_L (l : Launch) (D : va_G) (C : Nat → ClassId) (y : MethodName) (ws : List Cond) (rm : Room) (av : List Value) (w w' : va_W) (val : Int64) (mc ms : Nat) : Prop :=
  ∀ sz : Nat, Met l y ws rm (va_Pc av (cu_B D C w sz)) (va_Ql (fun (r : Int64) (_ : Unit) => r = val) (fun _ t => va_P D vwCl w' t.heap) (va_A w sz)) mc ms (va_A w sz)
section CUO
variable {l : Launch} {D : va_G} {C : Nat → ClassId} {y : MethodName} {ws ws' : List Cond} {rm : Room} {av : List Value} {w w' : va_W} {mc ms maxL : Nat} {cc : ByteArray} {own : String}
set_option maxHeartbeats 1000000 in
theorem cu_openI {val : Int32} {ty : FieldType} (hy : plainName y.cls = true) (ho : y.cls = own) (hw : ws = Cond.code y cc maxL (some ty) :: ws') (hz : (lg_sl av).length ≤ maxL)
    (body : ∀ (p : Program) (e : Env) (s : State) (m : MethodId) (args : Array Value) (below : List Frame) (meth : Method) (c : Code) (A : Nat → Prop) (Z : State → Prop) (H0 : Heap) (ls : Array Slot), s.heap = H0 → p.tables.exec = Jvm.exec → c.code = cc → c.maxLocals = maxL → (∀ w ∈ ws, w.before args s = true) → s.vm.findClass own = some m.cls → meth.name = y.name → cu_G D C s → va_P D vwCl w H0 → va_D A w → va_S A H0 H0 [] → (∀ q : Nat, H0.size ≤ q → A q) → lv_has ls maxL (lv_args 0 av) →
      (∀ (v : Int32) (H : Heap) (locs : List Loc) (pc : Nat) (ls : Array Slot), narrow ty (.int v) = .int v → v = val → va_P D vwCl w' H → va_S A H0 H locs → decode cc pc = .ok (.ireturn, 1) → W p l e rm s m args below meth c H locs mc ms Z (F0 m pc ls [.int v])) →
      W p l e rm s m args below meth c H0 [] 0 0 Z (F0 m 0 ls [])) : cu_I l D C y ws rm av w w' val mc ms := by
  intro sz
  refine Met.ofW (cc := cc) (maxL := maxL) (ret := some ty) hy hw ?_
  intro p e s m args below meth c s₁ B hml hv
  obtain ⟨rfl, hsz, hP, hD0, hG⟩ := hv
  subst hsz
  have hl := lv_entry av (n := maxL) hz
  rw [lg_entry_eq]
  refine body p e s m _ below meth c (va_A w s.heap.size) _ _ _ rfl B.exec B.bytes hml (atoms_spec (ws := ws) B.pre) (by rw [← ho]; exact findClass_of_methodNamed B.named) (name_of_methodNamed B.named B.method).1 hG hP hD0.self va_S.rf (fun q h => Or.inr h) hl ?_
  intro v H locs pc ls hn hv hP hS hd
  exact W.zret (v := v) B.exec B.bytes B.returns hn (fun t ht hW => ⟨⟨v, (), rfl, hv, by show va_P D vwCl w' t.heap; rw [ht]; exact hP⟩, hS.F ht⟩) hS.2.2 hd
theorem cu_ofWF {Pc : Array Value → State → Prop} {Qc : Array Value → State → Outcome → State → Prop} {free : Addr → Prop} {ret : Option FieldType}
    (hy : plainFor y = true) (hw : ws = Cond.code y cc maxL ret :: ws')
    (body : ∀ p e s m args below meth c s₁, BodyLoose p l y (headSpec ws rm) cc maxL ret e s m args below meth c s₁ → c.maxLocals = maxL → Pc args s →
      W p l e (headSpec ws rm).room s m args below meth c s.heap [] 0 0 (MQ below Qc args s mc ms free) (entryFrame m args maxL)) : Met l y ws rm Pc Qc mc ms free := by
  refine MetFree.of_bodySF (code := cc) (maxLocals := maxL) (ret := ret) hy ?_ ?_
  · intro args s m h hn
    obtain ⟨meth, c, h1, h2, h3, h4, h5, h6, -, -⟩ := Cond.code_spec hn (atoms_spec (ws := ws) h _ (by rw [hw]; exact List.mem_cons_self))
    exact ⟨meth, c, h1, h2, h3, h4, h5, h6⟩
  · intro p e s m args below meth c s₁ B hml hP _
    have hh0 : s₁.heap = s.heap := by rw [B.state]; rfl
    obtain ⟨t, a1, o, b1, b2, b3⟩ := body p e s m args below meth c s₁ B hml hP s₁ hh0 (Stand.of_body B)
    exact ⟨t, o, a1, b1, b2, ⟨b3.1, b3.2⟩⟩
set_option maxHeartbeats 1000000 in
theorem cu_openIF {val : Int32} {ty : FieldType} (hy : plainFor y = true) (ho : y.cls = own) (hw : ws = Cond.code y cc maxL (some ty) :: ws') (hz : (lg_sl av).length ≤ maxL)
    (body : ∀ (p : Program) (e : Env) (s : State) (m : MethodId) (args : Array Value) (below : List Frame) (meth : Method) (c : Code) (A : Nat → Prop) (Z : State → Prop) (H0 : Heap) (ls : Array Slot), s.heap = H0 → p.tables.exec = Jvm.exec → c.code = cc → c.maxLocals = maxL → (∀ w ∈ ws, w.before args s = true) → s.vm.findClass own = some m.cls → meth.name = y.name → cu_G D C s → va_P D vwCl w H0 → va_D A w → va_S A H0 H0 [] → (∀ q : Nat, H0.size ≤ q → A q) → lv_has ls maxL (lv_args 0 av) →
      (∀ (v : Int32) (H : Heap) (locs : List Loc) (pc : Nat) (ls : Array Slot), narrow ty (.int v) = .int v → v = val → va_P D vwCl w' H → va_S A H0 H locs → decode cc pc = .ok (.ireturn, 1) → W p l e rm s m args below meth c H locs mc ms Z (F0 m pc ls [.int v])) →
      W p l e rm s m args below meth c H0 [] 0 0 Z (F0 m 0 ls [])) : cu_I l D C y ws rm av w w' val mc ms := by
  intro sz
  refine cu_ofWF (cc := cc) (maxL := maxL) (ret := some ty) hy hw ?_
  intro p e s m args below meth c s₁ B hml hv
  obtain ⟨rfl, hsz, hP, hD0, hG⟩ := hv
  subst hsz
  have hl := lv_entry av (n := maxL) hz
  rw [lg_entry_eq]
  refine body p e s m _ below meth c (va_A w s.heap.size) _ _ _ rfl B.exec B.bytes hml (atoms_spec (ws := ws) B.pre) (by rw [← ho]; exact findClass_of_methodNamed B.named) (name_of_methodNamed B.named B.method).1 hG hP hD0.self va_S.rf (fun q h => Or.inr h) hl ?_
  intro v H locs pc ls hn hv hP hS hd
  exact W.zret (v := v) B.exec B.bytes B.returns hn (fun t ht hW => ⟨⟨v, (), rfl, hv, by show va_P D vwCl w' t.heap; rw [ht]; exact hP⟩, hS.F ht⟩) hS.2.2 hd
set_option maxHeartbeats 1000000 in
theorem cu_openV (hy : plainName y.cls = true) (ho : y.cls = own) (hw : ws = Cond.code y cc maxL none :: ws') (hz : (lg_sl av).length ≤ maxL)
    (body : ∀ (p : Program) (e : Env) (s : State) (m : MethodId) (args : Array Value) (below : List Frame) (meth : Method) (c : Code) (A : Nat → Prop) (Z : State → Prop) (H0 : Heap) (ls : Array Slot), s.heap = H0 → p.tables.exec = Jvm.exec → c.code = cc → c.maxLocals = maxL → (∀ w ∈ ws, w.before args s = true) → s.vm.findClass own = some m.cls → meth.name = y.name → cu_G D C s → va_P D vwCl w H0 → va_D A w → va_S A H0 H0 [] → (∀ q : Nat, H0.size ≤ q → A q) → lv_has ls maxL (lv_args 0 av) →
      (∀ (H : Heap) (locs : List Loc) (pc : Nat) (ls : Array Slot), va_P D vwCl w' H → va_S A H0 H locs → decode cc pc = .ok (.return_, 1) → W p l e rm s m args below meth c H locs mc ms Z (F0 m pc ls [])) →
      W p l e rm s m args below meth c H0 [] 0 0 Z (F0 m 0 ls [])) : cu_V l D C y ws rm av w w' mc ms := by
  intro sz
  refine Met.ofW (cc := cc) (maxL := maxL) (ret := none) hy hw ?_
  intro p e s m args below meth c s₁ B hml hv
  obtain ⟨rfl, hsz, hP, hD0, hG⟩ := hv
  subst hsz
  have hl := lv_entry av (n := maxL) hz
  rw [lg_entry_eq]
  refine body p e s m _ below meth c (va_A w s.heap.size) _ _ _ rfl B.exec B.bytes hml (atoms_spec (ws := ws) B.pre) (by rw [← ho]; exact findClass_of_methodNamed B.named) (name_of_methodNamed B.named B.method).1 hG hP hD0.self va_S.rf (fun q h => Or.inr h) hl ?_
  intro H locs pc ls hP hS hd
  exact W.vret B.exec B.bytes B.returns (fun t ht hW => ⟨⟨(), rfl, trivial, by show va_P D vwCl w' t.heap; rw [ht]; exact hP⟩, hS.F ht⟩) hS.2.2 hd
set_option maxHeartbeats 1000000 in
theorem cu_openL {val : Int64} (hy : plainName y.cls = true) (ho : y.cls = own) (hw : ws = Cond.code y cc maxL (some .long) :: ws') (hz : (lg_sl av).length ≤ maxL)
    (body : ∀ (p : Program) (e : Env) (s : State) (m : MethodId) (args : Array Value) (below : List Frame) (meth : Method) (c : Code) (A : Nat → Prop) (Z : State → Prop) (H0 : Heap) (ls : Array Slot), s.heap = H0 → p.tables.exec = Jvm.exec → c.code = cc → c.maxLocals = maxL → (∀ w ∈ ws, w.before args s = true) → s.vm.findClass own = some m.cls → meth.name = y.name → cu_G D C s → va_P D vwCl w H0 → va_D A w → va_S A H0 H0 [] → (∀ q : Nat, H0.size ≤ q → A q) → lv_has ls maxL (lv_args 0 av) →
      (∀ (v : Int64) (H : Heap) (locs : List Loc) (pc : Nat) (ls : Array Slot), v = val → va_P D vwCl w' H → va_S A H0 H locs → decode cc pc = .ok (.lreturn, 1) → W p l e rm s m args below meth c H locs mc ms Z (F0 m pc ls [.long v])) →
      W p l e rm s m args below meth c H0 [] 0 0 Z (F0 m 0 ls [])) : cu_L l D C y ws rm av w w' val mc ms := by
  intro sz
  refine Met.ofW (cc := cc) (maxL := maxL) (ret := some .long) hy hw ?_
  intro p e s m args below meth c s₁ B hml hv
  obtain ⟨rfl, hsz, hP, hD0, hG⟩ := hv
  subst hsz
  have hl := lv_entry av (n := maxL) hz
  rw [lg_entry_eq]
  refine body p e s m _ below meth c (va_A w s.heap.size) _ _ _ rfl B.exec B.bytes hml (atoms_spec (ws := ws) B.pre) (by rw [← ho]; exact findClass_of_methodNamed B.named) (name_of_methodNamed B.named B.method).1 hG hP hD0.self va_S.rf (fun q h => Or.inr h) hl ?_
  intro v H locs pc ls hv hP hS hd
  exact W.lret (v := v) B.exec B.bytes B.returns (fun t ht hW => ⟨⟨v, (), rfl, hv, by show va_P D vwCl w' t.heap; rw [ht]; exact hP⟩, hS.F ht⟩) hS.2.2 hd
end CUO
/-! calls -/
section CUC
variable {p : Program} {l : Launch} {e : Env} {R : Room} {s : State} {m : MethodId} {args : Array Value} {below : List Frame} {meth : Method} {c : Code} {H : Heap} {locs : List Loc} {cells slots : Nat} {Q : State → Prop}
variable {pc : Nat} {ls : Array Slot} {rest st0 : List Value} {a : Array Value} {A : Nat → Prop} {H0 : Heap} {mc ms : Nat} {D : va_G} {C : Nat → ClassId} {W0 w W1 w' : va_W} {b : Nat} {As : List Value}
theorem cu_preV {ci : Nat} {fs : List Value} {q : vw_C} (sp : cu_sp W0 w W1 w') (hG : cu_G D C s) (hP : va_P D vwCl W0 H) (hD : va_D A W0) (he : w[0]? = some (b, .inr (ci, fs))) (hc : vwCl[ci]? = some q) : PreV s H q.1 b (va_Pc (.ref b :: As) (cu_B D C w H.size)) As :=
  ⟨cu_blind, va_recv hG.1 (sp.P hP) hc he, fun U hU hW => ⟨rfl, by rw [hU], by rw [hU]; exact sp.P hP, (sp.D hD).weaken (fun _ _ _ _ => trivial), hG.warm hW⟩⟩
theorem cu_preS (sp : cu_sp W0 w W1 w') (hG : cu_G D C s) (hP : va_P D vwCl W0 H) (hD : va_D A W0) : PreS s H (va_Pc As (cu_B D C w H.size)) As :=
  ⟨cu_blind, fun U hU hW => ⟨rfl, by rw [hU], by rw [hU]; exact sp.P hP, (sp.D hD).weaken (fun _ _ _ _ => trivial), hG.warm hW⟩⟩
theorem cu_callI {val : Int32} (hr : va_Run p l e R s m args below meth c H locs cells slots mc ms (F0 m pc ls st0) rest (va_Qi (fun (r : Int32) (_ : Unit) => r = val) (fun _ t => va_P D vwCl w' t.heap) (va_A w H.size) a) (va_A w H.size)) (sp : cu_sp W0 w W1 w') (hP : va_P D vwCl W0 H) (hD : va_D A W0) (hS : va_S A H0 H locs) (hA : ∀ q : Nat, H0.size ≤ q → A q)
    (kk : ∀ (H1 : Heap) (locs1 : List Loc), va_P D vwCl W1 H1 → va_D A W1 → va_S A H0 H1 locs1 → W p l e R s m args below meth c H1 locs1 (cells + mc) (slots + ms) Q (F0 m (pc + 3) ls (.int val :: rest))) : W p l e R s m args below meth c H locs cells slots Q (F0 m pc ls st0) := by
  have hF := sp.F hD hS hA
  refine va_calli hr hS (fun q _ h => hF q h) hF (fun r u t H1 locs1 ht _ hpost hB hz hk hS1 => ?_)
  subst hpost
  rw [ht] at hB
  exact kk H1 locs1 (sp.join hP hD hk hB) (cu_D_fst sp.fst hD) hS1
theorem cu_callL {val : Int64} (hr : va_Run p l e R s m args below meth c H locs cells slots mc ms (F0 m pc ls st0) rest (va_Ql (fun (r : Int64) (_ : Unit) => r = val) (fun _ t => va_P D vwCl w' t.heap) (va_A w H.size) a) (va_A w H.size)) (sp : cu_sp W0 w W1 w') (hP : va_P D vwCl W0 H) (hD : va_D A W0) (hS : va_S A H0 H locs) (hA : ∀ q : Nat, H0.size ≤ q → A q)
    (kk : ∀ (H1 : Heap) (locs1 : List Loc), va_P D vwCl W1 H1 → va_D A W1 → va_S A H0 H1 locs1 → W p l e R s m args below meth c H1 locs1 (cells + mc) (slots + ms) Q (F0 m (pc + 3) ls (.long val :: rest))) : W p l e R s m args below meth c H locs cells slots Q (F0 m pc ls st0) := by
  have hF := sp.F hD hS hA
  refine va_calll hr hS (fun q _ h => hF q h) hF (fun r u t H1 locs1 ht _ hpost hB hz hk hS1 => ?_)
  subst hpost
  rw [ht] at hB
  exact kk H1 locs1 (sp.join hP hD hk hB) (cu_D_fst sp.fst hD) hS1
theorem cu_callV (hr : va_Run p l e R s m args below meth c H locs cells slots mc ms (F0 m pc ls st0) rest (va_Qv (fun (_ : Unit) => True) (fun _ t => va_P D vwCl w' t.heap) (va_A w H.size) a) (va_A w H.size)) (sp : cu_sp W0 w W1 w') (hP : va_P D vwCl W0 H) (hD : va_D A W0) (hS : va_S A H0 H locs) (hA : ∀ q : Nat, H0.size ≤ q → A q)
    (kk : ∀ (H1 : Heap) (locs1 : List Loc), va_P D vwCl W1 H1 → va_D A W1 → va_S A H0 H1 locs1 → W p l e R s m args below meth c H1 locs1 (cells + mc) (slots + ms) Q (F0 m (pc + 3) ls rest)) : W p l e R s m args below meth c H locs cells slots Q (F0 m pc ls st0) := by
  have hF := sp.F hD hS hA
  refine va_callv hr hS (fun q _ h => hF q h) hF (fun u t H1 locs1 ht _ hpost hB hz hk hS1 => ?_)
  rw [ht] at hB
  exact kk H1 locs1 (sp.join hP hD hk hB) (cu_D_fst sp.fst hD) hS1
end CUC
end
section
/-! WHAT A CLOCK DOES, in numbers: K holds a clock's numbers by the places 0 shown, 1 rest, 2 chain, 3 oil, 4 bellows, 5 goes, 6 calls, 7 missed, 8 latest, 9 a, 10 b, 11 swing, 12 from, 13 till -/
def k_fm (x y : Int32) : Int32 := if 0 ≤ (x ^^^ y) then (x - x / y * y) else if (x - x / y * y) = 0 then (x - x / y * y) else (x - x / y * y) + y
def k_advW (K : Nat → Int32) (a b : Int32) : Int32 := if b = 0 then 0 else if 20 ≤ K 3 then 900 * a / b + K 11 else 900 * a / b + K 11 - (900 * a / b + K 11) / 10
def k_adv (K : Nat → Int32) : Int32 := k_advW K (K 9) (K 10)
def k_due (t : Int32) : Int32 := if t = 0 then 12 else if t - t / 60 * 60 = 0 then t / 60 else if t - t / 30 * 30 = 0 then 1 else 0
def k_shutAt (K : Nat → Int32) (t : Int32) : Int32 := if K 12 = -1 then 0 else if K 13 ≤ K 12 then (if K 12 ≤ t then 1 else if K 13 ≤ t then 0 else 1) else (if t < K 12 then 0 else if K 13 ≤ t then 0 else 1)
def k_cuck (K : Nat → Int32) (due d : Int32) : Nat → Int32 := upd (upd (upd (upd K 4 (K 4 - d)) 6 (K 6 + d)) 8 (K 8 + d)) 7 (K 7 + (due - d))
def k_cuckoo (K : Nat → Int32) (due : Int32) : Nat → Int32 := k_cuck K due (if K 4 < due then K 4 else due)
def k_on (K : Nat → Int32) : Nat → Int32 := upd K 0 (K 0 + 1 - (K 0 + 1) / 720 * 720)
def k_tick (K : Nat → Int32) : Nat → Int32 := if k_shutAt (k_on K) (k_on K 0) = 0 then k_cuckoo (k_on K) (k_due (k_on K 0)) else k_on K
def k_ticks : Nat → (Nat → Int32) → Nat → Int32
  | 0, K => K
  | j + 1, K => k_ticks j (k_tick K)
def k_turn (K : Nat → Int32) : Nat → Int32 := k_ticks ((K 1 + k_adv K) / 900).toInt.toNat (upd K 1 (K 1 + k_adv K - (K 1 + k_adv K) / 900 * 900))
def k_wearO (n : Int32) (K : Nat → Int32) : Nat → Int32 := if n - n / 10 * 10 = 0 then (if K 3 ≤ 0 then upd K 2 (K 2 - 1) else upd (upd K 2 (K 2 - 1)) 3 (K 3 - 1)) else upd K 2 (K 2 - 1)
def k_wear (n : Int32) (K : Nat → Int32) : Nat → Int32 := if 0 < K 2 - 1 then k_wearO n K else upd (k_wearO n K) 5 0
/-- a clock's minute, with the minute's number -/
def k_min (n : Int32) (K : Nat → Int32) : Nat → Int32 := if K 5 = 0 then upd K 8 0 else k_wear n (k_turn (upd K 8 0))
def k_nudge (K : Nat → Int32) : Int32 := if K 5 = 0 then (if K 2 = 0 then 0 else 1) else 0
def k_stand (K : Nat → Int32) : Int32 := if K 5 = 0 then 0 else K 2
def k_read (K : Nat → Int32) (w : Int32) : Int32 :=
  if w = 0 then K 0 else if w = 1 then K 1 else if w = 2 then K 2 else if w = 3 then K 3 else if w = 4 then K 4 else if w = 5 then (if K 5 = 0 then 0 else 1) else if w = 6 then k_adv K else if w = 7 then K 6 else if w = 8 then K 7 else if w = 9 then K 8 else (if k_shutAt K (K 0) = 0 then 0 else 1)
def k_mixR (K : Nat → Int32) : Nat → Nat → Int64 → Int64
  | 0, _, d => d
  | j + 1, w, d => k_mixR K j (w + 1) (d * 31 + (k_read K (nI w)).toInt64)
def k_mix (K : Nat → Int32) (d : Int64) : Int64 := k_mixR K 11 0 (((((d * 31 + (K 9).toInt64) * 31 + (K 10).toInt64) * 31 + (K 11).toInt64) * 31 + (K 12).toInt64) * 31 + (K 13).toInt64)
def k_abs (x : Int32) : Int32 := if 0 ≤ x then x else 0 - x
/-- the gears' search: j pairs on, from a, b; the nearest so far and its number -/
def k_best1 (K : Nat → Int32) (a b : Int32) (u : Int32 × Int32) : Int32 × Int32 := if u.2 ≤ k_abs (k_advW K a b - 900) then u else (100 * a + b, k_abs (k_advW K a b - 900))
def k_bestB (K : Nat → Int32) (a : Int32) : Nat → Nat → Int32 × Int32 → Int32 × Int32
  | 0, _, u => u
  | j + 1, b, u => k_bestB K a j (b + 1) (k_best1 K a (nI b) u)
def k_bestA (K : Nat → Int32) : Nat → Nat → Int32 × Int32 → Int32 × Int32
  | 0, _, u => u
  | j + 1, a, u => k_bestA K j (a + 1) (k_bestB K (nI a) 21 20 u)
def k_true (K : Nat → Int32) : Int32 := (k_bestA K 21 20 (0, 1000000)).1
def k_new (K : Nat → Int32) : Nat → Int32 := upd (upd (upd (upd (upd (upd (upd (upd (upd (upd (upd (upd (upd (upd K 9 30) 10 30) 11 0) 2 600) 3 100) 4 60) 5 1) 0 0) 1 0) 12 (-1)) 13 0) 6 0) 7 0) 8 0
theorem cu_ne {x k : Int32} (h : ¬ x = k) (z : Int) (hz : k.toInt = z) : ¬ x.toInt = z := fun e => h (Int32.toInt_inj.mp (e.trans hz.symm))
theorem cu_dn0 {x : Int32} (h : x.toInt.toNat = 0) : x ≤ 0 := by
  rw [Int32.le_iff_toInt_le]
  show x.toInt ≤ 0
  omega
theorem cu_dn1 {x : Int32} {j : Nat} (h : x.toInt.toNat = j + 1) : ¬ x ≤ 0 := by
  rw [Int32.le_iff_toInt_le]
  show ¬ x.toInt ≤ 0
  omega
theorem cu_dn {x : Int32} {j : Nat} (h : x.toInt.toNat = j + 1) : (x + (-1)).toInt.toNat = j := by
  have h1 := Int32.le_toInt x
  have h2 := Int32.toInt_lt x
  rw [Int32.toInt_add]
  have e : (-1 : Int32).toInt = -1 := by decide
  rw [e, Int.bmod_def]
  omega
theorem cu_nb {x : Int32} (h : x = 0 ∨ x = 1) : narrow .boolean (.int x) = .int x := by rcases h with rfl | rfl <;> rfl
theorem cu_fb {x : Int32} (h : x = 0 ∨ x = 1) : fits .boolean (.int x) = true := by rcases h with rfl | rfl <;> rfl
end
section
set_option maxHeartbeats 4000000 in
set_option maxRecDepth 100000 in
theorem m_X0_putHands (l : Launch) (D : va_G) (C : Nat → ClassId) (h0 : Nat) (K : Nat → Int32) (v1 : Int32) : cu_V l D C yX0_putHands wsX0_putHands { frames := 0, cells := 0, slots := 0, locals := 0 } [.ref h0, .int v1] (cu_wc h0 K) (cu_wc h0 (upd (upd K 0 v1) 1 0)) 0 0 := by
  refine cu_openV (cc := cX0_putHands) (maxL := 2) (own := RX0) (by decide) rfl rfl (Nat.le_of_ble_eq_true rfl) ?_
  intro p e s m args below meth c A Z H0 ls e0 hx hb hml hts hown hnm hG hP hD hS hA hl fin
  have hK := hG.1
  have hl : lv_has ls 2 [(0, .ref h0), (1, .int v1)] := hl
  have hiX0 : ∀ w ∈ wsX00, w ∈ wsX0_putHands := by decide +kernel
  refine lv_aload_n hx hb dX0_putHands_0 rfl (lv_at hl 0 rfl) ?_
  refine lv_iload_n hx hb dX0_putHands_1 rfl (lv_at hl 1 rfl) ?_
  refine va_put (D := D) (ci := 0) (v := .int v1) (ty := .int) (C := RX0) (T := TX0) (N := 14) hx hb hts hiX0 tyX0 tyX0_ok nmX0 hown hK hP hD hS 0 rfl rfl 7 (by decide) (hts (.fieldLink RX0 34 "CuckooShop$Clock" "shown" "I") (by decide +kernel)) (fun _ h9 => h9) rfl (by decide +kernel) rfl rfl (Nat.le_of_ble_eq_true rfl) dX0_putHands_2 (fun H locs hP hD hS => ?_)
  have hP : va_P D vwCl (cu_wc h0 (upd K 0 v1)) H := hP
  have hD : va_D A (cu_wc h0 (upd K 0 v1)) := hD
  refine lv_aload_n hx hb dX0_putHands_5 rfl (lv_at hl 0 rfl) ?_
  refine lv_iconst (v := 0) hx hb dX0_putHands_6 (by decide) ?_
  refine va_put (D := D) (ci := 0) (v := .int 0) (ty := .int) (C := RX0) (T := TX0) (N := 14) hx hb hts hiX0 tyX0 tyX0_ok nmX0 hown hK hP hD hS 0 rfl rfl 8 (by decide) (hts (.fieldLink RX0 37 "CuckooShop$Clock" "rest" "I") (by decide +kernel)) (fun _ h9 => h9) rfl (by decide +kernel) rfl rfl (Nat.le_of_ble_eq_true rfl) dX0_putHands_7 (fun H locs hP hD hS => ?_)
  have hP : va_P D vwCl (cu_wc h0 (upd (upd K 0 v1) 1 0)) H := hP
  have hD : va_D A (cu_wc h0 (upd (upd K 0 v1) 1 0)) := hD
  exact fin _ _ _ _ hP hS dX0_putHands_10

set_option maxHeartbeats 4000000 in
set_option maxRecDepth 100000 in
theorem m_X0_fitTrain (l : Launch) (D : va_G) (C : Nat → ClassId) (h0 : Nat) (K : Nat → Int32) (v1 : Int32) (v2 : Int32) (v3 : Int32) : cu_V l D C yX0_fitTrain wsX0_fitTrain { frames := 0, cells := 0, slots := 0, locals := 0 } [.ref h0, .int v1, .int v2, .int v3] (cu_wc h0 K) (cu_wc h0 (upd (upd (upd K 9 v1) 10 v2) 11 v3)) 0 0 := by
  refine cu_openV (cc := cX0_fitTrain) (maxL := 4) (own := RX0) (by decide) rfl rfl (Nat.le_of_ble_eq_true rfl) ?_
  intro p e s m args below meth c A Z H0 ls e0 hx hb hml hts hown hnm hG hP hD hS hA hl fin
  have hK := hG.1
  have hl : lv_has ls 4 [(0, .ref h0), (1, .int v1), (2, .int v2), (3, .int v3)] := hl
  have hiX0 : ∀ w ∈ wsX00, w ∈ wsX0_fitTrain := by decide +kernel
  refine lv_aload_n hx hb dX0_fitTrain_0 rfl (lv_at hl 0 rfl) ?_
  refine lv_iload_n hx hb dX0_fitTrain_1 rfl (lv_at hl 1 rfl) ?_
  refine va_put (D := D) (ci := 0) (v := .int v1) (ty := .int) (C := RX0) (T := TX0) (N := 14) hx hb hts hiX0 tyX0 tyX0_ok nmX0 hown hK hP hD hS 0 rfl rfl 0 (by decide) (hts (.fieldLink RX0 9 "CuckooShop$Clock" "gearA" "I") (by decide +kernel)) (fun _ h9 => h9) rfl (by decide +kernel) rfl rfl (Nat.le_of_ble_eq_true rfl) dX0_fitTrain_2 (fun H locs hP hD hS => ?_)
  have hP : va_P D vwCl (cu_wc h0 (upd K 9 v1)) H := hP
  have hD : va_D A (cu_wc h0 (upd K 9 v1)) := hD
  refine lv_aload_n hx hb dX0_fitTrain_5 rfl (lv_at hl 0 rfl) ?_
  refine lv_iload_n hx hb dX0_fitTrain_6 rfl (lv_at hl 2 rfl) ?_
  refine va_put (D := D) (ci := 0) (v := .int v2) (ty := .int) (C := RX0) (T := TX0) (N := 14) hx hb hts hiX0 tyX0 tyX0_ok nmX0 hown hK hP hD hS 0 rfl rfl 1 (by decide) (hts (.fieldLink RX0 15 "CuckooShop$Clock" "gearB" "I") (by decide +kernel)) (fun _ h9 => h9) rfl (by decide +kernel) rfl rfl (Nat.le_of_ble_eq_true rfl) dX0_fitTrain_7 (fun H locs hP hD hS => ?_)
  have hP : va_P D vwCl (cu_wc h0 (upd (upd K 9 v1) 10 v2)) H := hP
  have hD : va_D A (cu_wc h0 (upd (upd K 9 v1) 10 v2)) := hD
  refine lv_aload_n hx hb dX0_fitTrain_10 rfl (lv_at hl 0 rfl) ?_
  refine lv_iload_n hx hb dX0_fitTrain_11 rfl (lv_at hl 3 rfl) ?_
  refine va_put (D := D) (ci := 0) (v := .int v3) (ty := .int) (C := RX0) (T := TX0) (N := 14) hx hb hts hiX0 tyX0 tyX0_ok nmX0 hown hK hP hD hS 0 rfl rfl 2 (by decide) (hts (.fieldLink RX0 18 "CuckooShop$Clock" "swing" "I") (by decide +kernel)) (fun _ h9 => h9) rfl (by decide +kernel) rfl rfl (Nat.le_of_ble_eq_true rfl) dX0_fitTrain_12 (fun H locs hP hD hS => ?_)
  have hP : va_P D vwCl (cu_wc h0 (upd (upd (upd K 9 v1) 10 v2) 11 v3)) H := hP
  have hD : va_D A (cu_wc h0 (upd (upd (upd K 9 v1) 10 v2) 11 v3)) := hD
  exact fin _ _ _ _ hP hS dX0_fitTrain_15

set_option maxHeartbeats 4000000 in
set_option maxRecDepth 100000 in
theorem m_X0_drawUp (l : Launch) (D : va_G) (C : Nat → ClassId) (h0 : Nat) (K : Nat → Int32) : cu_I l D C yX0_drawUp wsX0_drawUp { frames := 0, cells := 0, slots := 0, locals := 0 } [.ref h0] (cu_wc h0 K) (cu_wc h0 (upd (upd K 2 600) 5 1)) (600 - K 2) 0 0 := by
  refine cu_openI (cc := cX0_drawUp) (maxL := 2) (ty := .int) (own := RX0) (by decide) rfl rfl (Nat.le_of_ble_eq_true rfl) ?_
  intro p e s m args below meth c A Z H0 ls e0 hx hb hml hts hown hnm hG hP hD hS hA hl fin
  have hK := hG.1
  have hl : lv_has ls 2 [(0, .ref h0)] := hl
  have hiX0 : ∀ w ∈ wsX00, w ∈ wsX0_drawUp := by decide +kernel
  refine lv_sipush (v := 600) hx hb dX0_drawUp_0 (by decide) ?_
  refine lv_aload_n hx hb dX0_drawUp_3 rfl (lv_at hl 0 rfl) ?_
  refine va_get (D := D) (ci := 0) (v := .int (K 2)) (C := RX0) (T := TX0) (N := 14) hx hb hts hiX0 hown hK hP 0 rfl rfl 3 (by decide) (hts (.fieldLink RX0 21 "CuckooShop$Clock" "chain" "I") (by decide +kernel)) (fun _ h9 => h9) rfl dX0_drawUp_4 ?_
  refine lv_isub hx hb dX0_drawUp_7 ?_
  refine lv_istore_n (lv' := [(1, .int (600 - (K 2))), (0, .ref h0)]) hx hb dX0_drawUp_8 rfl hl (by decide) rfl (fun ls hl => ?_)
  refine lv_aload_n hx hb dX0_drawUp_9 rfl (lv_at hl 1 rfl) ?_
  refine lv_sipush (v := 600) hx hb dX0_drawUp_10 (by decide) ?_
  refine va_put (D := D) (ci := 0) (v := .int 600) (ty := .int) (C := RX0) (T := TX0) (N := 14) hx hb hts hiX0 tyX0 tyX0_ok nmX0 hown hK hP hD hS 0 rfl rfl 3 (by decide) (hts (.fieldLink RX0 21 "CuckooShop$Clock" "chain" "I") (by decide +kernel)) (fun _ h9 => h9) rfl (by decide +kernel) rfl rfl (Nat.le_of_ble_eq_true rfl) dX0_drawUp_13 (fun H locs hP hD hS => ?_)
  have hP : va_P D vwCl (cu_wc h0 (upd K 2 600)) H := hP
  have hD : va_D A (cu_wc h0 (upd K 2 600)) := hD
  refine lv_aload_n hx hb dX0_drawUp_16 rfl (lv_at hl 1 rfl) ?_
  refine lv_iconst (v := 1) hx hb dX0_drawUp_17 (by decide) ?_
  refine va_put (D := D) (ci := 0) (v := .int 1) (ty := .boolean) (C := RX0) (T := TX0) (N := 14) hx hb hts hiX0 tyX0 tyX0_ok nmX0 hown hK hP hD hS 0 rfl rfl 6 (by decide) (hts (.fieldLink RX0 30 "CuckooShop$Clock" "goes" "Z") (by decide +kernel)) (fun _ h9 => h9) rfl (by decide +kernel) rfl rfl (Nat.le_of_ble_eq_true rfl) dX0_drawUp_18 (fun H locs hP hD hS => ?_)
  have hP : va_P D vwCl (cu_wc h0 (upd (upd K 2 600) 5 1)) H := hP
  have hD : va_D A (cu_wc h0 (upd (upd K 2 600) 5 1)) := hD
  refine lv_iload_n hx hb dX0_drawUp_21 rfl (lv_at hl 0 rfl) ?_
  exact fin _ _ _ _ _ rfl (by rfl) hP hS dX0_drawUp_22

set_option maxHeartbeats 4000000 in
set_option maxRecDepth 100000 in
theorem m_X0_fillOil (l : Launch) (D : va_G) (C : Nat → ClassId) (h0 : Nat) (K : Nat → Int32) : cu_I l D C yX0_fillOil wsX0_fillOil { frames := 0, cells := 0, slots := 0, locals := 0 } [.ref h0] (cu_wc h0 K) (cu_wc h0 (upd K 3 100)) (100 - K 3) 0 0 := by
  refine cu_openI (cc := cX0_fillOil) (maxL := 2) (ty := .int) (own := RX0) (by decide) rfl rfl (Nat.le_of_ble_eq_true rfl) ?_
  intro p e s m args below meth c A Z H0 ls e0 hx hb hml hts hown hnm hG hP hD hS hA hl fin
  have hK := hG.1
  have hl : lv_has ls 2 [(0, .ref h0)] := hl
  have hiX0 : ∀ w ∈ wsX00, w ∈ wsX0_fillOil := by decide +kernel
  refine lv_bipush (v := 100) hx hb dX0_fillOil_0 (by decide) ?_
  refine lv_aload_n hx hb dX0_fillOil_2 rfl (lv_at hl 0 rfl) ?_
  refine va_get (D := D) (ci := 0) (v := .int (K 3)) (C := RX0) (T := TX0) (N := 14) hx hb hts hiX0 hown hK hP 0 rfl rfl 4 (by decide) (hts (.fieldLink RX0 24 "CuckooShop$Clock" "oil" "I") (by decide +kernel)) (fun _ h9 => h9) rfl dX0_fillOil_3 ?_
  refine lv_isub hx hb dX0_fillOil_6 ?_
  refine lv_istore_n (lv' := [(1, .int (100 - (K 3))), (0, .ref h0)]) hx hb dX0_fillOil_7 rfl hl (by decide) rfl (fun ls hl => ?_)
  refine lv_aload_n hx hb dX0_fillOil_8 rfl (lv_at hl 1 rfl) ?_
  refine lv_bipush (v := 100) hx hb dX0_fillOil_9 (by decide) ?_
  refine va_put (D := D) (ci := 0) (v := .int 100) (ty := .int) (C := RX0) (T := TX0) (N := 14) hx hb hts hiX0 tyX0 tyX0_ok nmX0 hown hK hP hD hS 0 rfl rfl 4 (by decide) (hts (.fieldLink RX0 24 "CuckooShop$Clock" "oil" "I") (by decide +kernel)) (fun _ h9 => h9) rfl (by decide +kernel) rfl rfl (Nat.le_of_ble_eq_true rfl) dX0_fillOil_11 (fun H locs hP hD hS => ?_)
  have hP : va_P D vwCl (cu_wc h0 (upd K 3 100)) H := hP
  have hD : va_D A (cu_wc h0 (upd K 3 100)) := hD
  refine lv_iload_n hx hb dX0_fillOil_14 rfl (lv_at hl 0 rfl) ?_
  exact fin _ _ _ _ _ rfl (by rfl) hP hS dX0_fillOil_15

set_option maxHeartbeats 4000000 in
set_option maxRecDepth 100000 in
theorem m_X0_patchBellows (l : Launch) (D : va_G) (C : Nat → ClassId) (h0 : Nat) (K : Nat → Int32) : cu_I l D C yX0_patchBellows wsX0_patchBellows { frames := 0, cells := 0, slots := 0, locals := 0 } [.ref h0] (cu_wc h0 K) (cu_wc h0 (upd K 4 60)) (60 - K 4) 0 0 := by
  refine cu_openI (cc := cX0_patchBellows) (maxL := 2) (ty := .int) (own := RX0) (by decide) rfl rfl (Nat.le_of_ble_eq_true rfl) ?_
  intro p e s m args below meth c A Z H0 ls e0 hx hb hml hts hown hnm hG hP hD hS hA hl fin
  have hK := hG.1
  have hl : lv_has ls 2 [(0, .ref h0)] := hl
  have hiX0 : ∀ w ∈ wsX00, w ∈ wsX0_patchBellows := by decide +kernel
  refine lv_bipush (v := 60) hx hb dX0_patchBellows_0 (by decide) ?_
  refine lv_aload_n hx hb dX0_patchBellows_2 rfl (lv_at hl 0 rfl) ?_
  refine va_get (D := D) (ci := 0) (v := .int (K 4)) (C := RX0) (T := TX0) (N := 14) hx hb hts hiX0 hown hK hP 0 rfl rfl 5 (by decide) (hts (.fieldLink RX0 27 "CuckooShop$Clock" "bellows" "I") (by decide +kernel)) (fun _ h9 => h9) rfl dX0_patchBellows_3 ?_
  refine lv_isub hx hb dX0_patchBellows_6 ?_
  refine lv_istore_n (lv' := [(1, .int (60 - (K 4))), (0, .ref h0)]) hx hb dX0_patchBellows_7 rfl hl (by decide) rfl (fun ls hl => ?_)
  refine lv_aload_n hx hb dX0_patchBellows_8 rfl (lv_at hl 1 rfl) ?_
  refine lv_bipush (v := 60) hx hb dX0_patchBellows_9 (by decide) ?_
  refine va_put (D := D) (ci := 0) (v := .int 60) (ty := .int) (C := RX0) (T := TX0) (N := 14) hx hb hts hiX0 tyX0 tyX0_ok nmX0 hown hK hP hD hS 0 rfl rfl 5 (by decide) (hts (.fieldLink RX0 27 "CuckooShop$Clock" "bellows" "I") (by decide +kernel)) (fun _ h9 => h9) rfl (by decide +kernel) rfl rfl (Nat.le_of_ble_eq_true rfl) dX0_patchBellows_11 (fun H locs hP hD hS => ?_)
  have hP : va_P D vwCl (cu_wc h0 (upd K 4 60)) H := hP
  have hD : va_D A (cu_wc h0 (upd K 4 60)) := hD
  refine lv_iload_n hx hb dX0_patchBellows_14 rfl (lv_at hl 0 rfl) ?_
  exact fin _ _ _ _ _ rfl (by rfl) hP hS dX0_patchBellows_15

set_option maxHeartbeats 4000000 in
set_option maxRecDepth 100000 in
theorem m_X0_nudge (l : Launch) (D : va_G) (C : Nat → ClassId) (h0 : Nat) (K : Nat → Int32) : cu_I l D C yX0_nudge wsX0_nudge { frames := 0, cells := 0, slots := 0, locals := 0 } [.ref h0] (cu_wc h0 K) (cu_wc h0 (upd K 5 (k_nudge K))) (k_nudge K) 0 0 := by
  refine cu_openI (cc := cX0_nudge) (maxL := 1) (ty := .int) (own := RX0) (by decide) rfl rfl (Nat.le_of_ble_eq_true rfl) ?_
  intro p e s m args below meth c A Z H0 ls e0 hx hb hml hts hown hnm hG hP hD hS hA hl fin
  have hK := hG.1
  have hl : lv_has ls 1 [(0, .ref h0)] := hl
  have hiX0 : ∀ w ∈ wsX00, w ∈ wsX0_nudge := by decide +kernel
  refine lv_aload_n hx hb dX0_nudge_0 rfl (lv_at hl 0 rfl) ?_
  refine lv_aload_n hx hb dX0_nudge_1 rfl (lv_at hl 0 rfl) ?_
  refine va_get (D := D) (ci := 0) (v := .int (K 5)) (C := RX0) (T := TX0) (N := 14) hx hb hts hiX0 hown hK hP 0 rfl rfl 6 (by decide) (hts (.fieldLink RX0 30 "CuckooShop$Clock" "goes" "Z") (by decide +kernel)) (fun _ h9 => h9) rfl dX0_nudge_2 ?_
  refine lv_if_ne (tgt := 19) hx hb dX0_nudge_5 (by decide) (fun c_5 => ?_) (fun c_5 => ?_)
  · refine lv_iconst (v := 0) hx hb dX0_nudge_19 (by decide) ?_
    refine va_put (D := D) (ci := 0) (v := .int 0) (ty := .boolean) (C := RX0) (T := TX0) (N := 14) hx hb hts hiX0 tyX0 tyX0_ok nmX0 hown hK hP hD hS 0 rfl rfl 6 (by decide) (hts (.fieldLink RX0 30 "CuckooShop$Clock" "goes" "Z") (by decide +kernel)) (fun _ h9 => h9) rfl (by decide +kernel) rfl rfl (Nat.le_of_ble_eq_true rfl) dX0_nudge_20 (fun H locs hP hD hS => ?_)
    have hP : va_P D vwCl (cu_wc h0 (upd K 5 0)) H := hP
    have hD : va_D A (cu_wc h0 (upd K 5 0)) := hD
    refine lv_aload_n hx hb dX0_nudge_23 rfl (lv_at hl 0 rfl) ?_
    refine va_get (D := D) (ci := 0) (v := .int 0) (C := RX0) (T := TX0) (N := 14) hx hb hts hiX0 hown hK hP 0 rfl rfl 6 (by decide) (hts (.fieldLink RX0 30 "CuckooShop$Clock" "goes" "Z") (by decide +kernel)) (fun _ h9 => h9) rfl dX0_nudge_24 ?_
    refine lv_if_eq (tgt := 34) hx hb dX0_nudge_27 (by decide) (fun c_27 => ?_) (fun c_27 => absurd c_27 (by decide))
    refine lv_iconst (v := 0) hx hb dX0_nudge_34 (by decide) ?_
    exact fin _ _ _ _ _ rfl (by simp only [k_nudge, if_neg c_5, reduceIte]) (by simpa only [k_nudge, if_neg c_5, reduceIte] using hP) hS dX0_nudge_35
  · refine lv_aload_n hx hb dX0_nudge_8 rfl (lv_at hl 0 rfl) ?_
    refine va_get (D := D) (ci := 0) (v := .int (K 2)) (C := RX0) (T := TX0) (N := 14) hx hb hts hiX0 hown hK hP 0 rfl rfl 3 (by decide) (hts (.fieldLink RX0 21 "CuckooShop$Clock" "chain" "I") (by decide +kernel)) (fun _ h9 => h9) rfl dX0_nudge_9 ?_
    refine lv_if_eq (tgt := 19) hx hb dX0_nudge_12 (by decide) (fun c_12 => ?_) (fun c_12 => ?_)
    · refine lv_iconst (v := 0) hx hb dX0_nudge_19 (by decide) ?_
      refine va_put (D := D) (ci := 0) (v := .int 0) (ty := .boolean) (C := RX0) (T := TX0) (N := 14) hx hb hts hiX0 tyX0 tyX0_ok nmX0 hown hK hP hD hS 0 rfl rfl 6 (by decide) (hts (.fieldLink RX0 30 "CuckooShop$Clock" "goes" "Z") (by decide +kernel)) (fun _ h9 => h9) rfl (by decide +kernel) rfl rfl (Nat.le_of_ble_eq_true rfl) dX0_nudge_20 (fun H locs hP hD hS => ?_)
      have hP : va_P D vwCl (cu_wc h0 (upd K 5 0)) H := hP
      have hD : va_D A (cu_wc h0 (upd K 5 0)) := hD
      refine lv_aload_n hx hb dX0_nudge_23 rfl (lv_at hl 0 rfl) ?_
      refine va_get (D := D) (ci := 0) (v := .int 0) (C := RX0) (T := TX0) (N := 14) hx hb hts hiX0 hown hK hP 0 rfl rfl 6 (by decide) (hts (.fieldLink RX0 30 "CuckooShop$Clock" "goes" "Z") (by decide +kernel)) (fun _ h9 => h9) rfl dX0_nudge_24 ?_
      refine lv_if_eq (tgt := 34) hx hb dX0_nudge_27 (by decide) (fun c_27 => ?_) (fun c_27 => absurd c_27 (by decide))
      refine lv_iconst (v := 0) hx hb dX0_nudge_34 (by decide) ?_
      exact fin _ _ _ _ _ rfl (by simp only [k_nudge, if_pos c_5, if_pos c_12, reduceIte]) (by simpa only [k_nudge, if_pos c_5, if_pos c_12, reduceIte] using hP) hS dX0_nudge_35
    · refine lv_iconst (v := 1) hx hb dX0_nudge_15 (by decide) ?_
      refine lv_goto (tgt := 20) hx hb dX0_nudge_16 (by decide) ?_
      refine va_put (D := D) (ci := 0) (v := .int 1) (ty := .boolean) (C := RX0) (T := TX0) (N := 14) hx hb hts hiX0 tyX0 tyX0_ok nmX0 hown hK hP hD hS 0 rfl rfl 6 (by decide) (hts (.fieldLink RX0 30 "CuckooShop$Clock" "goes" "Z") (by decide +kernel)) (fun _ h9 => h9) rfl (by decide +kernel) rfl rfl (Nat.le_of_ble_eq_true rfl) dX0_nudge_20 (fun H locs hP hD hS => ?_)
      have hP : va_P D vwCl (cu_wc h0 (upd K 5 1)) H := hP
      have hD : va_D A (cu_wc h0 (upd K 5 1)) := hD
      refine lv_aload_n hx hb dX0_nudge_23 rfl (lv_at hl 0 rfl) ?_
      refine va_get (D := D) (ci := 0) (v := .int 1) (C := RX0) (T := TX0) (N := 14) hx hb hts hiX0 hown hK hP 0 rfl rfl 6 (by decide) (hts (.fieldLink RX0 30 "CuckooShop$Clock" "goes" "Z") (by decide +kernel)) (fun _ h9 => h9) rfl dX0_nudge_24 ?_
      refine lv_if_eq (tgt := 34) hx hb dX0_nudge_27 (by decide) (fun c_27 => absurd c_27 (by decide)) (fun c_27 => ?_)
      refine lv_iconst (v := 1) hx hb dX0_nudge_30 (by decide) ?_
      refine lv_goto (tgt := 35) hx hb dX0_nudge_31 (by decide) ?_
      exact fin _ _ _ _ _ rfl (by simp only [k_nudge, if_pos c_5, if_neg c_12, reduceIte]) (by simpa only [k_nudge, if_pos c_5, if_neg c_12, reduceIte] using hP) hS dX0_nudge_35

set_option maxHeartbeats 4000000 in
set_option maxRecDepth 100000 in
theorem m_X0_silence (l : Launch) (D : va_G) (C : Nat → ClassId) (h0 : Nat) (K : Nat → Int32) (v1 : Int32) (v2 : Int32) : cu_I l D C yX0_silence wsX0_silence { frames := 0, cells := 0, slots := 0, locals := 0 } [.ref h0, .int v1, .int v2] (cu_wc h0 K) (cu_wc h0 (upd (upd K 12 v1) 13 v2)) (K 12) 0 0 := by
  refine cu_openI (cc := cX0_silence) (maxL := 4) (ty := .int) (own := RX0) (by decide) rfl rfl (Nat.le_of_ble_eq_true rfl) ?_
  intro p e s m args below meth c A Z H0 ls e0 hx hb hml hts hown hnm hG hP hD hS hA hl fin
  have hK := hG.1
  have hl : lv_has ls 4 [(0, .ref h0), (1, .int v1), (2, .int v2)] := hl
  have hiX0 : ∀ w ∈ wsX00, w ∈ wsX0_silence := by decide +kernel
  refine lv_aload_n hx hb dX0_silence_0 rfl (lv_at hl 0 rfl) ?_
  refine va_get (D := D) (ci := 0) (v := .int (K 12)) (C := RX0) (T := TX0) (N := 14) hx hb hts hiX0 hown hK hP 0 rfl rfl 9 (by decide) (hts (.fieldLink RX0 40 "CuckooShop$Clock" "shutFrom" "I") (by decide +kernel)) (fun _ h9 => h9) rfl dX0_silence_1 ?_
  refine lv_istore_n (lv' := [(3, .int (K 12)), (0, .ref h0), (1, .int v1), (2, .int v2)]) hx hb dX0_silence_4 rfl hl (by decide) rfl (fun ls hl => ?_)
  refine lv_aload_n hx hb dX0_silence_5 rfl (lv_at hl 1 rfl) ?_
  refine lv_iload_n hx hb dX0_silence_6 rfl (lv_at hl 2 rfl) ?_
  refine va_put (D := D) (ci := 0) (v := .int v1) (ty := .int) (C := RX0) (T := TX0) (N := 14) hx hb hts hiX0 tyX0 tyX0_ok nmX0 hown hK hP hD hS 0 rfl rfl 9 (by decide) (hts (.fieldLink RX0 40 "CuckooShop$Clock" "shutFrom" "I") (by decide +kernel)) (fun _ h9 => h9) rfl (by decide +kernel) rfl rfl (Nat.le_of_ble_eq_true rfl) dX0_silence_7 (fun H locs hP hD hS => ?_)
  have hP : va_P D vwCl (cu_wc h0 (upd K 12 v1)) H := hP
  have hD : va_D A (cu_wc h0 (upd K 12 v1)) := hD
  refine lv_aload_n hx hb dX0_silence_10 rfl (lv_at hl 1 rfl) ?_
  refine lv_iload_n hx hb dX0_silence_11 rfl (lv_at hl 3 rfl) ?_
  refine va_put (D := D) (ci := 0) (v := .int v2) (ty := .int) (C := RX0) (T := TX0) (N := 14) hx hb hts hiX0 tyX0 tyX0_ok nmX0 hown hK hP hD hS 0 rfl rfl 10 (by decide) (hts (.fieldLink RX0 43 "CuckooShop$Clock" "shutTill" "I") (by decide +kernel)) (fun _ h9 => h9) rfl (by decide +kernel) rfl rfl (Nat.le_of_ble_eq_true rfl) dX0_silence_12 (fun H locs hP hD hS => ?_)
  have hP : va_P D vwCl (cu_wc h0 (upd (upd K 12 v1) 13 v2)) H := hP
  have hD : va_D A (cu_wc h0 (upd (upd K 12 v1) 13 v2)) := hD
  refine lv_iload_n hx hb dX0_silence_15 rfl (lv_at hl 0 rfl) ?_
  exact fin _ _ _ _ _ rfl (by rfl) hP hS dX0_silence_16

set_option maxHeartbeats 4000000 in
set_option maxRecDepth 100000 in
theorem m_X0_advanceWith (l : Launch) (D : va_G) (C : Nat → ClassId) (h0 : Nat) (K : Nat → Int32) (v1 : Int32) (v2 : Int32) : cu_I l D C yX0_advanceWith wsX0_advanceWith { frames := 0, cells := 0, slots := 0, locals := 0 } [.ref h0, .int v1, .int v2] (cu_wc h0 K) (cu_wc h0 K) (k_advW K v1 v2) 0 0 := by
  refine cu_openI (cc := cX0_advanceWith) (maxL := 4) (ty := .int) (own := RX0) (by decide) rfl rfl (Nat.le_of_ble_eq_true rfl) ?_
  intro p e s m args below meth c A Z H0 ls e0 hx hb hml hts hown hnm hG hP hD hS hA hl fin
  have hK := hG.1
  have hl : lv_has ls 4 [(0, .ref h0), (1, .int v1), (2, .int v2)] := hl
  have hiX0 : ∀ w ∈ wsX00, w ∈ wsX0_advanceWith := by decide +kernel
  refine lv_iload_n hx hb dX0_advanceWith_0 rfl (lv_at hl 2 rfl) ?_
  refine lv_if_ne (tgt := 6) hx hb dX0_advanceWith_1 (by decide) (fun c_1 => ?_) (fun c_1 => ?_)
  · refine lv_sipush (v := 900) hx hb dX0_advanceWith_6 (by decide) ?_
    refine lv_iload_n hx hb dX0_advanceWith_9 rfl (lv_at hl 1 rfl) ?_
    refine lv_imul hx hb dX0_advanceWith_10 ?_
    refine lv_iload_n hx hb dX0_advanceWith_11 rfl (lv_at hl 2 rfl) ?_
    refine lv_idiv hx hb dX0_advanceWith_12 c_1 ?_
    refine lv_aload_n hx hb dX0_advanceWith_13 rfl (lv_at hl 0 rfl) ?_
    refine va_get (D := D) (ci := 0) (v := .int (K 11)) (C := RX0) (T := TX0) (N := 14) hx hb hts hiX0 hown hK hP 0 rfl rfl 2 (by decide) (hts (.fieldLink RX0 18 "CuckooShop$Clock" "swing" "I") (by decide +kernel)) (fun _ h9 => h9) rfl dX0_advanceWith_14 ?_
    refine lv_iadd hx hb dX0_advanceWith_17 ?_
    refine lv_istore_n (lv' := [(3, .int (((900 * v1) / v2) + (K 11))), (0, .ref h0), (1, .int v1), (2, .int v2)]) hx hb dX0_advanceWith_18 rfl hl (by decide) rfl (fun ls hl => ?_)
    refine lv_aload_n hx hb dX0_advanceWith_19 rfl (lv_at hl 1 rfl) ?_
    refine va_get (D := D) (ci := 0) (v := .int (K 3)) (C := RX0) (T := TX0) (N := 14) hx hb hts hiX0 hown hK hP 0 rfl rfl 4 (by decide) (hts (.fieldLink RX0 24 "CuckooShop$Clock" "oil" "I") (by decide +kernel)) (fun _ h9 => h9) rfl dX0_advanceWith_20 ?_
    refine lv_bipush (v := 20) hx hb dX0_advanceWith_23 (by decide) ?_
    refine lv_icmp_ge (tgt := 37) hx hb dX0_advanceWith_25 (by decide) (fun c_25 => ?_) (fun c_25 => ?_)
    · refine lv_iload_n hx hb dX0_advanceWith_37 rfl (lv_at hl 0 rfl) ?_
      exact fin _ _ _ _ _ rfl (by simp only [k_advW, if_neg c_1, if_pos c_25, reduceIte]) hP hS dX0_advanceWith_38
    · refine lv_iload_n hx hb dX0_advanceWith_28 rfl (lv_at hl 0 rfl) ?_
      refine lv_iload_n hx hb dX0_advanceWith_29 rfl (lv_at hl 0 rfl) ?_
      refine lv_bipush (v := 10) hx hb dX0_advanceWith_30 (by decide) ?_
      refine lv_idiv hx hb dX0_advanceWith_32 (by decide) ?_
      refine lv_isub hx hb dX0_advanceWith_33 ?_
      refine lv_goto (tgt := 38) hx hb dX0_advanceWith_34 (by decide) ?_
      exact fin _ _ _ _ _ rfl (by simp only [k_advW, if_neg c_1, if_neg c_25, reduceIte]) hP hS dX0_advanceWith_38
  · refine lv_iconst (v := 0) hx hb dX0_advanceWith_4 (by decide) ?_
    exact fin _ _ _ _ _ rfl (by simp only [k_advW, if_pos c_1, reduceIte]) hP hS dX0_advanceWith_5

set_option maxHeartbeats 4000000 in
set_option maxRecDepth 100000 in
theorem m_X0_advance (l : Launch) (D : va_G) (C : Nat → ClassId) (h0 : Nat) (K : Nat → Int32) : cu_I l D C yX0_advance wsX0_advance { frames := 1, cells := 0, slots := 0, locals := 23 } [.ref h0] (cu_wc h0 K) (cu_wc h0 K) (k_adv K) 0 0 := by
  refine cu_openI (cc := cX0_advance) (maxL := 1) (ty := .int) (own := RX0) (by decide) rfl rfl (Nat.le_of_ble_eq_true rfl) ?_
  intro p e s m args below meth c A Z H0 ls e0 hx hb hml hts hown hnm hG hP hD hS hA hl fin
  have hK := hG.1
  have hl : lv_has ls 1 [(0, .ref h0)] := hl
  have hiX0 : ∀ w ∈ wsX00, w ∈ wsX0_advance := by decide +kernel
  refine lv_aload_n hx hb dX0_advance_0 rfl (lv_at hl 0 rfl) ?_
  refine lv_aload_n hx hb dX0_advance_1 rfl (lv_at hl 0 rfl) ?_
  refine va_get (D := D) (ci := 0) (v := .int (K 9)) (C := RX0) (T := TX0) (N := 14) hx hb hts hiX0 hown hK hP 0 rfl rfl 0 (by decide) (hts (.fieldLink RX0 9 "CuckooShop$Clock" "gearA" "I") (by decide +kernel)) (fun _ h9 => h9) rfl dX0_advance_2 ?_
  refine lv_aload_n hx hb dX0_advance_5 rfl (lv_at hl 0 rfl) ?_
  refine va_get (D := D) (ci := 0) (v := .int (K 10)) (C := RX0) (T := TX0) (N := 14) hx hb hts hiX0 hown hK hP 0 rfl rfl 1 (by decide) (hts (.fieldLink RX0 15 "CuckooShop$Clock" "gearB" "I") (by decide +kernel)) (fun _ h9 => h9) rfl dX0_advance_6 ?_
  have sp := cu_sp.all (W0 := (cu_wc h0 K)) (W1 := (cu_wc h0 K)) rfl
  refine cu_callI (va_runV (As := [.int (K 9), .int (K 10)]) (rest := []) ⟨hx, hb, hml, hown, hts⟩ ((m_X0_advanceWith l D C h0 K (K 9) (K 10)) H0.size) (cwV 2 hts gX0_advance_X0_advanceWith rfl rfl rfl (by decide +kernel) ⟨Nat.le_of_ble_eq_true rfl, Nat.le_of_ble_eq_true rfl⟩) (cu_preV (ci := 0) sp hG hP hD rfl rfl) rfl rfl hl.1 rfl (lv_room (Nat.le_of_ble_eq_true rfl)) dX0_advance_9 ⟨Nat.le_of_ble_eq_true rfl, Nat.le_of_ble_eq_true rfl⟩) sp hP hD hS hA (fun H locs hP hD hS => ?_)
  have hP : va_P D vwCl (cu_wc h0 K) H := hP
  have hD : va_D A (cu_wc h0 K) := hD
  exact fin _ _ _ _ _ rfl (by rfl) hP hS dX0_advance_12

set_option maxHeartbeats 4000000 in
set_option maxRecDepth 100000 in
theorem m_X0_isShutAt (l : Launch) (D : va_G) (C : Nat → ClassId) (h0 : Nat) (K : Nat → Int32) (v1 : Int32) : cu_I l D C yX0_isShutAt wsX0_isShutAt { frames := 0, cells := 0, slots := 0, locals := 0 } [.ref h0, .int v1] (cu_wc h0 K) (cu_wc h0 K) (k_shutAt K v1) 0 0 := by
  refine cu_openI (cc := cX0_isShutAt) (maxL := 2) (ty := .boolean) (own := RX0) (by decide) rfl rfl (Nat.le_of_ble_eq_true rfl) ?_
  intro p e s m args below meth c A Z H0 ls e0 hx hb hml hts hown hnm hG hP hD hS hA hl fin
  have hK := hG.1
  have hl : lv_has ls 2 [(0, .ref h0), (1, .int v1)] := hl
  have hiX0 : ∀ w ∈ wsX00, w ∈ wsX0_isShutAt := by decide +kernel
  refine lv_aload_n hx hb dX0_isShutAt_0 rfl (lv_at hl 0 rfl) ?_
  refine va_get (D := D) (ci := 0) (v := .int (K 12)) (C := RX0) (T := TX0) (N := 14) hx hb hts hiX0 hown hK hP 0 rfl rfl 9 (by decide) (hts (.fieldLink RX0 40 "CuckooShop$Clock" "shutFrom" "I") (by decide +kernel)) (fun _ h9 => h9) rfl dX0_isShutAt_1 ?_
  refine lv_iconst (v := -1) hx hb dX0_isShutAt_4 (by decide) ?_
  refine lv_icmp_ne (tgt := 10) hx hb dX0_isShutAt_5 (by decide) (fun c_5 => ?_) (fun c_5 => ?_)
  · refine lv_aload_n hx hb dX0_isShutAt_10 rfl (lv_at hl 0 rfl) ?_
    refine va_get (D := D) (ci := 0) (v := .int (K 12)) (C := RX0) (T := TX0) (N := 14) hx hb hts hiX0 hown hK hP 0 rfl rfl 9 (by decide) (hts (.fieldLink RX0 40 "CuckooShop$Clock" "shutFrom" "I") (by decide +kernel)) (fun _ h9 => h9) rfl dX0_isShutAt_11 ?_
    refine lv_aload_n hx hb dX0_isShutAt_14 rfl (lv_at hl 0 rfl) ?_
    refine va_get (D := D) (ci := 0) (v := .int (K 13)) (C := RX0) (T := TX0) (N := 14) hx hb hts hiX0 hown hK hP 0 rfl rfl 10 (by decide) (hts (.fieldLink RX0 43 "CuckooShop$Clock" "shutTill" "I") (by decide +kernel)) (fun _ h9 => h9) rfl dX0_isShutAt_15 ?_
    refine lv_icmp_ge (tgt := 43) hx hb dX0_isShutAt_18 (by decide) (fun c_18 => ?_) (fun c_18 => ?_)
    · refine lv_iload_n hx hb dX0_isShutAt_43 rfl (lv_at hl 1 rfl) ?_
      refine lv_aload_n hx hb dX0_isShutAt_44 rfl (lv_at hl 0 rfl) ?_
      refine va_get (D := D) (ci := 0) (v := .int (K 12)) (C := RX0) (T := TX0) (N := 14) hx hb hts hiX0 hown hK hP 0 rfl rfl 9 (by decide) (hts (.fieldLink RX0 40 "CuckooShop$Clock" "shutFrom" "I") (by decide +kernel)) (fun _ h9 => h9) rfl dX0_isShutAt_45 ?_
      refine lv_icmp_ge (tgt := 59) hx hb dX0_isShutAt_48 (by decide) (fun c_48 => ?_) (fun c_48 => ?_)
      · refine lv_iconst (v := 1) hx hb dX0_isShutAt_59 (by decide) ?_
        refine lv_goto (tgt := 64) hx hb dX0_isShutAt_60 (by decide) ?_
        exact fin _ _ _ _ _ (by decide) (by simp only [k_shutAt, if_neg c_5, if_pos c_18, if_pos c_48, reduceIte]) hP hS dX0_isShutAt_64
      · refine lv_iload_n hx hb dX0_isShutAt_51 rfl (lv_at hl 1 rfl) ?_
        refine lv_aload_n hx hb dX0_isShutAt_52 rfl (lv_at hl 0 rfl) ?_
        refine va_get (D := D) (ci := 0) (v := .int (K 13)) (C := RX0) (T := TX0) (N := 14) hx hb hts hiX0 hown hK hP 0 rfl rfl 10 (by decide) (hts (.fieldLink RX0 43 "CuckooShop$Clock" "shutTill" "I") (by decide +kernel)) (fun _ h9 => h9) rfl dX0_isShutAt_53 ?_
        refine lv_icmp_ge (tgt := 63) hx hb dX0_isShutAt_56 (by decide) (fun c_56 => ?_) (fun c_56 => ?_)
        · refine lv_iconst (v := 0) hx hb dX0_isShutAt_63 (by decide) ?_
          exact fin _ _ _ _ _ (by decide) (by simp only [k_shutAt, if_neg c_5, if_pos c_18, if_neg c_48, if_pos c_56, reduceIte]) hP hS dX0_isShutAt_64
        · refine lv_iconst (v := 1) hx hb dX0_isShutAt_59 (by decide) ?_
          refine lv_goto (tgt := 64) hx hb dX0_isShutAt_60 (by decide) ?_
          exact fin _ _ _ _ _ (by decide) (by simp only [k_shutAt, if_neg c_5, if_pos c_18, if_neg c_48, if_neg c_56, reduceIte]) hP hS dX0_isShutAt_64
    · refine lv_iload_n hx hb dX0_isShutAt_21 rfl (lv_at hl 1 rfl) ?_
      refine lv_aload_n hx hb dX0_isShutAt_22 rfl (lv_at hl 0 rfl) ?_
      refine va_get (D := D) (ci := 0) (v := .int (K 12)) (C := RX0) (T := TX0) (N := 14) hx hb hts hiX0 hown hK hP 0 rfl rfl 9 (by decide) (hts (.fieldLink RX0 40 "CuckooShop$Clock" "shutFrom" "I") (by decide +kernel)) (fun _ h9 => h9) rfl dX0_isShutAt_23 ?_
      refine lv_icmp_lt (tgt := 41) hx hb dX0_isShutAt_26 (by decide) (fun c_26 => ?_) (fun c_26 => ?_)
      · refine lv_iconst (v := 0) hx hb dX0_isShutAt_41 (by decide) ?_
        exact fin _ _ _ _ _ (by decide) (by simp only [k_shutAt, if_neg c_5, if_neg c_18, if_pos c_26, reduceIte]) hP hS dX0_isShutAt_42
      · refine lv_iload_n hx hb dX0_isShutAt_29 rfl (lv_at hl 1 rfl) ?_
        refine lv_aload_n hx hb dX0_isShutAt_30 rfl (lv_at hl 0 rfl) ?_
        refine va_get (D := D) (ci := 0) (v := .int (K 13)) (C := RX0) (T := TX0) (N := 14) hx hb hts hiX0 hown hK hP 0 rfl rfl 10 (by decide) (hts (.fieldLink RX0 43 "CuckooShop$Clock" "shutTill" "I") (by decide +kernel)) (fun _ h9 => h9) rfl dX0_isShutAt_31 ?_
        refine lv_icmp_ge (tgt := 41) hx hb dX0_isShutAt_34 (by decide) (fun c_34 => ?_) (fun c_34 => ?_)
        · refine lv_iconst (v := 0) hx hb dX0_isShutAt_41 (by decide) ?_
          exact fin _ _ _ _ _ (by decide) (by simp only [k_shutAt, if_neg c_5, if_neg c_18, if_neg c_26, if_pos c_34, reduceIte]) hP hS dX0_isShutAt_42
        · refine lv_iconst (v := 1) hx hb dX0_isShutAt_37 (by decide) ?_
          refine lv_goto (tgt := 42) hx hb dX0_isShutAt_38 (by decide) ?_
          exact fin _ _ _ _ _ (by decide) (by simp only [k_shutAt, if_neg c_5, if_neg c_18, if_neg c_26, if_neg c_34, reduceIte]) hP hS dX0_isShutAt_42
  · refine lv_iconst (v := 0) hx hb dX0_isShutAt_8 (by decide) ?_
    exact fin _ _ _ _ _ (by decide) (by simp only [k_shutAt, if_pos c_5, reduceIte]) hP hS dX0_isShutAt_9

set_option maxHeartbeats 4000000 in
set_option maxRecDepth 100000 in
theorem m_X0_minutesToStand (l : Launch) (D : va_G) (C : Nat → ClassId) (h0 : Nat) (K : Nat → Int32) : cu_I l D C yX0_minutesToStand wsX0_minutesToStand { frames := 0, cells := 0, slots := 0, locals := 0 } [.ref h0] (cu_wc h0 K) (cu_wc h0 K) (k_stand K) 0 0 := by
  refine cu_openI (cc := cX0_minutesToStand) (maxL := 1) (ty := .int) (own := RX0) (by decide) rfl rfl (Nat.le_of_ble_eq_true rfl) ?_
  intro p e s m args below meth c A Z H0 ls e0 hx hb hml hts hown hnm hG hP hD hS hA hl fin
  have hK := hG.1
  have hl : lv_has ls 1 [(0, .ref h0)] := hl
  have hiX0 : ∀ w ∈ wsX00, w ∈ wsX0_minutesToStand := by decide +kernel
  refine lv_aload_n hx hb dX0_minutesToStand_0 rfl (lv_at hl 0 rfl) ?_
  refine va_get (D := D) (ci := 0) (v := .int (K 5)) (C := RX0) (T := TX0) (N := 14) hx hb hts hiX0 hown hK hP 0 rfl rfl 6 (by decide) (hts (.fieldLink RX0 30 "CuckooShop$Clock" "goes" "Z") (by decide +kernel)) (fun _ h9 => h9) rfl dX0_minutesToStand_1 ?_
  refine lv_if_eq (tgt := 14) hx hb dX0_minutesToStand_4 (by decide) (fun c_4 => ?_) (fun c_4 => ?_)
  · refine lv_iconst (v := 0) hx hb dX0_minutesToStand_14 (by decide) ?_
    exact fin _ _ _ _ _ rfl (by simp only [k_stand, if_pos c_4, reduceIte]) hP hS dX0_minutesToStand_15
  · refine lv_aload_n hx hb dX0_minutesToStand_7 rfl (lv_at hl 0 rfl) ?_
    refine va_get (D := D) (ci := 0) (v := .int (K 2)) (C := RX0) (T := TX0) (N := 14) hx hb hts hiX0 hown hK hP 0 rfl rfl 3 (by decide) (hts (.fieldLink RX0 21 "CuckooShop$Clock" "chain" "I") (by decide +kernel)) (fun _ h9 => h9) rfl dX0_minutesToStand_8 ?_
    refine lv_goto (tgt := 15) hx hb dX0_minutesToStand_11 (by decide) ?_
    exact fin _ _ _ _ _ rfl (by simp only [k_stand, if_neg c_4, reduceIte]) hP hS dX0_minutesToStand_15

set_option maxHeartbeats 4000000 in
set_option maxRecDepth 100000 in
theorem m_X0_cuckoo (l : Launch) (D : va_G) (C : Nat → ClassId) (h0 : Nat) (K : Nat → Int32) (v1 : Int32) : cu_V l D C yX0_cuckoo wsX0_cuckoo { frames := 1, cells := 0, slots := 0, locals := 13 } [.ref h0, .int v1] (cu_wc h0 K) (cu_wc h0 (k_cuckoo K v1)) 0 0 := by
  refine cu_openV (cc := cX0_cuckoo) (maxL := 3) (own := RX0) (by decide) rfl rfl (Nat.le_of_ble_eq_true rfl) ?_
  intro p e s m args below meth c A Z H0 ls e0 hx hb hml hts hown hnm hG hP hD hS hA hl fin
  have hK := hG.1
  have hl : lv_has ls 3 [(0, .ref h0), (1, .int v1)] := hl
  have hiX0 : ∀ w ∈ wsX00, w ∈ wsX0_cuckoo := by decide +kernel
  refine lv_iload_n hx hb dX0_cuckoo_0 rfl (lv_at hl 1 rfl) ?_
  refine lv_aload_n hx hb dX0_cuckoo_1 rfl (lv_at hl 0 rfl) ?_
  refine va_get (D := D) (ci := 0) (v := .int (K 4)) (C := RX0) (T := TX0) (N := 14) hx hb hts hiX0 hown hK hP 0 rfl rfl 5 (by decide) (hts (.fieldLink RX0 27 "CuckooShop$Clock" "bellows" "I") (by decide +kernel)) (fun _ h9 => h9) rfl dX0_cuckoo_2 ?_
  refine va_mmin hx hb (hml.trans hl.1.symm) hown (hts (.methodLink RX0 87 Lib.Math.min.name) (by decide +kernel)) (hts (.static Lib.Math.min.name) (by decide +kernel)) (hts (.initialized "java/lang/Math") (by decide +kernel)) (hts (.code Lib.Math.min.name Lib.Math.min.code 2 (some .int)) (by decide +kernel)) (Nat.le_of_ble_eq_true rfl) (Nat.le_of_ble_eq_true rfl) (Nat.zero_le _) (Nat.zero_le _) dX0_cuckoo_5 ?_
  refine lv_topi (fun dn edn => ?_)
  refine lv_istore_n (lv' := [(2, .int dn), (0, .ref h0), (1, .int v1)]) hx hb dX0_cuckoo_8 rfl hl (by decide) rfl (fun ls hl => ?_)
  refine lv_aload_n hx hb dX0_cuckoo_9 rfl (lv_at hl 1 rfl) ?_
  refine lv_dup hx hb dX0_cuckoo_10 rfl ?_
  refine va_get (D := D) (ci := 0) (v := .int (K 4)) (C := RX0) (T := TX0) (N := 14) hx hb hts hiX0 hown hK hP 0 rfl rfl 5 (by decide) (hts (.fieldLink RX0 27 "CuckooShop$Clock" "bellows" "I") (by decide +kernel)) (fun _ h9 => h9) rfl dX0_cuckoo_11 ?_
  refine lv_iload_n hx hb dX0_cuckoo_14 rfl (lv_at hl 0 rfl) ?_
  refine lv_isub hx hb dX0_cuckoo_15 ?_
  refine va_put (D := D) (ci := 0) (v := .int ((K 4) - dn)) (ty := .int) (C := RX0) (T := TX0) (N := 14) hx hb hts hiX0 tyX0 tyX0_ok nmX0 hown hK hP hD hS 0 rfl rfl 5 (by decide) (hts (.fieldLink RX0 27 "CuckooShop$Clock" "bellows" "I") (by decide +kernel)) (fun _ h9 => h9) rfl (by decide +kernel) rfl rfl (Nat.le_of_ble_eq_true rfl) dX0_cuckoo_16 (fun H locs hP hD hS => ?_)
  have hP : va_P D vwCl (cu_wc h0 (upd K 4 ((K 4) - dn))) H := hP
  have hD : va_D A (cu_wc h0 (upd K 4 ((K 4) - dn))) := hD
  refine lv_aload_n hx hb dX0_cuckoo_19 rfl (lv_at hl 1 rfl) ?_
  refine lv_dup hx hb dX0_cuckoo_20 rfl ?_
  refine va_get (D := D) (ci := 0) (v := .int (K 6)) (C := RX0) (T := TX0) (N := 14) hx hb hts hiX0 hown hK hP 0 rfl rfl 11 (by decide) (hts (.fieldLink RX0 46 "CuckooShop$Clock" "calls" "I") (by decide +kernel)) (fun _ h9 => h9) rfl dX0_cuckoo_21 ?_
  refine lv_iload_n hx hb dX0_cuckoo_24 rfl (lv_at hl 0 rfl) ?_
  refine lv_iadd hx hb dX0_cuckoo_25 ?_
  refine va_put (D := D) (ci := 0) (v := .int ((K 6) + dn)) (ty := .int) (C := RX0) (T := TX0) (N := 14) hx hb hts hiX0 tyX0 tyX0_ok nmX0 hown hK hP hD hS 0 rfl rfl 11 (by decide) (hts (.fieldLink RX0 46 "CuckooShop$Clock" "calls" "I") (by decide +kernel)) (fun _ h9 => h9) rfl (by decide +kernel) rfl rfl (Nat.le_of_ble_eq_true rfl) dX0_cuckoo_26 (fun H locs hP hD hS => ?_)
  have hP : va_P D vwCl (cu_wc h0 (upd (upd K 4 ((K 4) - dn)) 6 ((K 6) + dn))) H := hP
  have hD : va_D A (cu_wc h0 (upd (upd K 4 ((K 4) - dn)) 6 ((K 6) + dn))) := hD
  refine lv_aload_n hx hb dX0_cuckoo_29 rfl (lv_at hl 1 rfl) ?_
  refine lv_dup hx hb dX0_cuckoo_30 rfl ?_
  refine va_get (D := D) (ci := 0) (v := .int (K 8)) (C := RX0) (T := TX0) (N := 14) hx hb hts hiX0 hown hK hP 0 rfl rfl 13 (by decide) (hts (.fieldLink RX0 52 "CuckooShop$Clock" "latestCalls" "I") (by decide +kernel)) (fun _ h9 => h9) rfl dX0_cuckoo_31 ?_
  refine lv_iload_n hx hb dX0_cuckoo_34 rfl (lv_at hl 0 rfl) ?_
  refine lv_iadd hx hb dX0_cuckoo_35 ?_
  refine va_put (D := D) (ci := 0) (v := .int ((K 8) + dn)) (ty := .int) (C := RX0) (T := TX0) (N := 14) hx hb hts hiX0 tyX0 tyX0_ok nmX0 hown hK hP hD hS 0 rfl rfl 13 (by decide) (hts (.fieldLink RX0 52 "CuckooShop$Clock" "latestCalls" "I") (by decide +kernel)) (fun _ h9 => h9) rfl (by decide +kernel) rfl rfl (Nat.le_of_ble_eq_true rfl) dX0_cuckoo_36 (fun H locs hP hD hS => ?_)
  have hP : va_P D vwCl (cu_wc h0 (upd (upd (upd K 4 ((K 4) - dn)) 6 ((K 6) + dn)) 8 ((K 8) + dn))) H := hP
  have hD : va_D A (cu_wc h0 (upd (upd (upd K 4 ((K 4) - dn)) 6 ((K 6) + dn)) 8 ((K 8) + dn))) := hD
  refine lv_aload_n hx hb dX0_cuckoo_39 rfl (lv_at hl 1 rfl) ?_
  refine lv_dup hx hb dX0_cuckoo_40 rfl ?_
  refine va_get (D := D) (ci := 0) (v := .int (K 7)) (C := RX0) (T := TX0) (N := 14) hx hb hts hiX0 hown hK hP 0 rfl rfl 12 (by decide) (hts (.fieldLink RX0 49 "CuckooShop$Clock" "missed" "I") (by decide +kernel)) (fun _ h9 => h9) rfl dX0_cuckoo_41 ?_
  refine lv_iload_n hx hb dX0_cuckoo_44 rfl (lv_at hl 2 rfl) ?_
  refine lv_iload_n hx hb dX0_cuckoo_45 rfl (lv_at hl 0 rfl) ?_
  refine lv_isub hx hb dX0_cuckoo_46 ?_
  refine lv_iadd hx hb dX0_cuckoo_47 ?_
  refine va_put (D := D) (ci := 0) (v := .int ((K 7) + (v1 - dn))) (ty := .int) (C := RX0) (T := TX0) (N := 14) hx hb hts hiX0 tyX0 tyX0_ok nmX0 hown hK hP hD hS 0 rfl rfl 12 (by decide) (hts (.fieldLink RX0 49 "CuckooShop$Clock" "missed" "I") (by decide +kernel)) (fun _ h9 => h9) rfl (by decide +kernel) rfl rfl (Nat.le_of_ble_eq_true rfl) dX0_cuckoo_48 (fun H locs hP hD hS => ?_)
  have hP : va_P D vwCl (cu_wc h0 (upd (upd (upd (upd K 4 ((K 4) - dn)) 6 ((K 6) + dn)) 8 ((K 8) + dn)) 7 ((K 7) + (v1 - dn)))) H := hP
  have hD : va_D A (cu_wc h0 (upd (upd (upd (upd K 4 ((K 4) - dn)) 6 ((K 6) + dn)) 8 ((K 8) + dn)) 7 ((K 7) + (v1 - dn)))) := hD
  subst edn
  exact fin _ _ _ _ hP hS dX0_cuckoo_51

set_option maxHeartbeats 4000000 in
set_option maxRecDepth 100000 in
theorem m_X0_wear (l : Launch) (D : va_G) (C : Nat → ClassId) (h0 : Nat) (K : Nat → Int32) (v1 : Int32) : cu_V l D C yX0_wear wsX0_wear { frames := 0, cells := 0, slots := 0, locals := 0 } [.ref h0, .int v1] (cu_wc h0 K) (cu_wc h0 (k_wear v1 K)) 0 0 := by
  refine cu_openV (cc := cX0_wear) (maxL := 2) (own := RX0) (by decide) rfl rfl (Nat.le_of_ble_eq_true rfl) ?_
  intro p e s m args below meth c A Z H0 ls e0 hx hb hml hts hown hnm hG hP hD hS hA hl fin
  have hK := hG.1
  have hl : lv_has ls 2 [(0, .ref h0), (1, .int v1)] := hl
  have hiX0 : ∀ w ∈ wsX00, w ∈ wsX0_wear := by decide +kernel
  refine lv_aload_n hx hb dX0_wear_0 rfl (lv_at hl 0 rfl) ?_
  refine lv_dup hx hb dX0_wear_1 rfl ?_
  refine va_get (D := D) (ci := 0) (v := .int (K 2)) (C := RX0) (T := TX0) (N := 14) hx hb hts hiX0 hown hK hP 0 rfl rfl 3 (by decide) (hts (.fieldLink RX0 21 "CuckooShop$Clock" "chain" "I") (by decide +kernel)) (fun _ h9 => h9) rfl dX0_wear_2 ?_
  refine lv_iconst (v := 1) hx hb dX0_wear_5 (by decide) ?_
  refine lv_isub hx hb dX0_wear_6 ?_
  refine va_put (D := D) (ci := 0) (v := .int ((K 2) - 1)) (ty := .int) (C := RX0) (T := TX0) (N := 14) hx hb hts hiX0 tyX0 tyX0_ok nmX0 hown hK hP hD hS 0 rfl rfl 3 (by decide) (hts (.fieldLink RX0 21 "CuckooShop$Clock" "chain" "I") (by decide +kernel)) (fun _ h9 => h9) rfl (by decide +kernel) rfl rfl (Nat.le_of_ble_eq_true rfl) dX0_wear_7 (fun H locs hP hD hS => ?_)
  have hP : va_P D vwCl (cu_wc h0 (upd K 2 ((K 2) - 1))) H := hP
  have hD : va_D A (cu_wc h0 (upd K 2 ((K 2) - 1))) := hD
  refine lv_iload_n hx hb dX0_wear_10 rfl (lv_at hl 1 rfl) ?_
  refine lv_bipush (v := 10) hx hb dX0_wear_11 (by decide) ?_
  refine lv_irem hx hb dX0_wear_13 (by decide) ?_
  refine lv_if_ne (tgt := 34) hx hb dX0_wear_14 (by decide) (fun c_14 => ?_) (fun c_14 => ?_)
  · refine lv_aload_n hx hb dX0_wear_34 rfl (lv_at hl 0 rfl) ?_
    refine va_get (D := D) (ci := 0) (v := .int ((K 2) - 1)) (C := RX0) (T := TX0) (N := 14) hx hb hts hiX0 hown hK hP 0 rfl rfl 3 (by decide) (hts (.fieldLink RX0 21 "CuckooShop$Clock" "chain" "I") (by decide +kernel)) (fun _ h9 => h9) rfl dX0_wear_35 ?_
    refine lv_if_gt (tgt := 46) hx hb dX0_wear_38 (by decide) (fun c_38 => ?_) (fun c_38 => ?_)
    · exact fin _ _ _ _ (by simpa only [k_wear, k_wearO, if_neg c_14, if_pos c_38, reduceIte] using hP) hS dX0_wear_46
    · refine lv_aload_n hx hb dX0_wear_41 rfl (lv_at hl 0 rfl) ?_
      refine lv_iconst (v := 0) hx hb dX0_wear_42 (by decide) ?_
      refine va_put (D := D) (ci := 0) (v := .int 0) (ty := .boolean) (C := RX0) (T := TX0) (N := 14) hx hb hts hiX0 tyX0 tyX0_ok nmX0 hown hK hP hD hS 0 rfl rfl 6 (by decide) (hts (.fieldLink RX0 30 "CuckooShop$Clock" "goes" "Z") (by decide +kernel)) (fun _ h9 => h9) rfl (by decide +kernel) rfl rfl (Nat.le_of_ble_eq_true rfl) dX0_wear_43 (fun H locs hP hD hS => ?_)
      have hP : va_P D vwCl (cu_wc h0 (upd (upd K 2 ((K 2) - 1)) 5 0)) H := hP
      have hD : va_D A (cu_wc h0 (upd (upd K 2 ((K 2) - 1)) 5 0)) := hD
      exact fin _ _ _ _ (by simpa only [k_wear, k_wearO, if_neg c_14, if_neg c_38, reduceIte] using hP) hS dX0_wear_46
  · refine lv_aload_n hx hb dX0_wear_17 rfl (lv_at hl 0 rfl) ?_
    refine va_get (D := D) (ci := 0) (v := .int (K 3)) (C := RX0) (T := TX0) (N := 14) hx hb hts hiX0 hown hK hP 0 rfl rfl 4 (by decide) (hts (.fieldLink RX0 24 "CuckooShop$Clock" "oil" "I") (by decide +kernel)) (fun _ h9 => h9) rfl dX0_wear_18 ?_
    refine lv_if_le (tgt := 34) hx hb dX0_wear_21 (by decide) (fun c_21 => ?_) (fun c_21 => ?_)
    · refine lv_aload_n hx hb dX0_wear_34 rfl (lv_at hl 0 rfl) ?_
      refine va_get (D := D) (ci := 0) (v := .int ((K 2) - 1)) (C := RX0) (T := TX0) (N := 14) hx hb hts hiX0 hown hK hP 0 rfl rfl 3 (by decide) (hts (.fieldLink RX0 21 "CuckooShop$Clock" "chain" "I") (by decide +kernel)) (fun _ h9 => h9) rfl dX0_wear_35 ?_
      refine lv_if_gt (tgt := 46) hx hb dX0_wear_38 (by decide) (fun c_38 => ?_) (fun c_38 => ?_)
      · exact fin _ _ _ _ (by simpa only [k_wear, k_wearO, if_pos c_14, if_pos c_21, if_pos c_38, reduceIte] using hP) hS dX0_wear_46
      · refine lv_aload_n hx hb dX0_wear_41 rfl (lv_at hl 0 rfl) ?_
        refine lv_iconst (v := 0) hx hb dX0_wear_42 (by decide) ?_
        refine va_put (D := D) (ci := 0) (v := .int 0) (ty := .boolean) (C := RX0) (T := TX0) (N := 14) hx hb hts hiX0 tyX0 tyX0_ok nmX0 hown hK hP hD hS 0 rfl rfl 6 (by decide) (hts (.fieldLink RX0 30 "CuckooShop$Clock" "goes" "Z") (by decide +kernel)) (fun _ h9 => h9) rfl (by decide +kernel) rfl rfl (Nat.le_of_ble_eq_true rfl) dX0_wear_43 (fun H locs hP hD hS => ?_)
        have hP : va_P D vwCl (cu_wc h0 (upd (upd K 2 ((K 2) - 1)) 5 0)) H := hP
        have hD : va_D A (cu_wc h0 (upd (upd K 2 ((K 2) - 1)) 5 0)) := hD
        exact fin _ _ _ _ (by simpa only [k_wear, k_wearO, if_pos c_14, if_pos c_21, if_neg c_38, reduceIte] using hP) hS dX0_wear_46
    · refine lv_aload_n hx hb dX0_wear_24 rfl (lv_at hl 0 rfl) ?_
      refine lv_dup hx hb dX0_wear_25 rfl ?_
      refine va_get (D := D) (ci := 0) (v := .int (K 3)) (C := RX0) (T := TX0) (N := 14) hx hb hts hiX0 hown hK hP 0 rfl rfl 4 (by decide) (hts (.fieldLink RX0 24 "CuckooShop$Clock" "oil" "I") (by decide +kernel)) (fun _ h9 => h9) rfl dX0_wear_26 ?_
      refine lv_iconst (v := 1) hx hb dX0_wear_29 (by decide) ?_
      refine lv_isub hx hb dX0_wear_30 ?_
      refine va_put (D := D) (ci := 0) (v := .int ((K 3) - 1)) (ty := .int) (C := RX0) (T := TX0) (N := 14) hx hb hts hiX0 tyX0 tyX0_ok nmX0 hown hK hP hD hS 0 rfl rfl 4 (by decide) (hts (.fieldLink RX0 24 "CuckooShop$Clock" "oil" "I") (by decide +kernel)) (fun _ h9 => h9) rfl (by decide +kernel) rfl rfl (Nat.le_of_ble_eq_true rfl) dX0_wear_31 (fun H locs hP hD hS => ?_)
      have hP : va_P D vwCl (cu_wc h0 (upd (upd K 2 ((K 2) - 1)) 3 ((K 3) - 1))) H := hP
      have hD : va_D A (cu_wc h0 (upd (upd K 2 ((K 2) - 1)) 3 ((K 3) - 1))) := hD
      refine lv_aload_n hx hb dX0_wear_34 rfl (lv_at hl 0 rfl) ?_
      refine va_get (D := D) (ci := 0) (v := .int ((K 2) - 1)) (C := RX0) (T := TX0) (N := 14) hx hb hts hiX0 hown hK hP 0 rfl rfl 3 (by decide) (hts (.fieldLink RX0 21 "CuckooShop$Clock" "chain" "I") (by decide +kernel)) (fun _ h9 => h9) rfl dX0_wear_35 ?_
      refine lv_if_gt (tgt := 46) hx hb dX0_wear_38 (by decide) (fun c_38 => ?_) (fun c_38 => ?_)
      · exact fin _ _ _ _ (by simpa only [k_wear, k_wearO, if_pos c_14, if_neg c_21, if_pos c_38, reduceIte] using hP) hS dX0_wear_46
      · refine lv_aload_n hx hb dX0_wear_41 rfl (lv_at hl 0 rfl) ?_
        refine lv_iconst (v := 0) hx hb dX0_wear_42 (by decide) ?_
        refine va_put (D := D) (ci := 0) (v := .int 0) (ty := .boolean) (C := RX0) (T := TX0) (N := 14) hx hb hts hiX0 tyX0 tyX0_ok nmX0 hown hK hP hD hS 0 rfl rfl 6 (by decide) (hts (.fieldLink RX0 30 "CuckooShop$Clock" "goes" "Z") (by decide +kernel)) (fun _ h9 => h9) rfl (by decide +kernel) rfl rfl (Nat.le_of_ble_eq_true rfl) dX0_wear_43 (fun H locs hP hD hS => ?_)
        have hP : va_P D vwCl (cu_wc h0 (upd (upd (upd K 2 ((K 2) - 1)) 3 ((K 3) - 1)) 5 0)) H := hP
        have hD : va_D A (cu_wc h0 (upd (upd (upd K 2 ((K 2) - 1)) 3 ((K 3) - 1)) 5 0)) := hD
        exact fin _ _ _ _ (by simpa only [k_wear, k_wearO, if_pos c_14, if_neg c_21, if_neg c_38, reduceIte] using hP) hS dX0_wear_46

set_option maxHeartbeats 4000000 in
set_option maxRecDepth 100000 in
theorem m_X0_callsDueAt (l : Launch) (D : va_G) (C : Nat → ClassId) (v1 : Int32) : cu_I l D C yX0_callsDueAt wsX0_callsDueAt { frames := 0, cells := 0, slots := 0, locals := 0 } [.int v1] ([] : va_W) ([] : va_W) (k_due v1) 0 0 := by
  refine cu_openI (cc := cX0_callsDueAt) (maxL := 1) (ty := .int) (own := RX0) (by decide) rfl rfl (Nat.le_of_ble_eq_true rfl) ?_
  intro p e s m args below meth c A Z H0 ls e0 hx hb hml hts hown hnm hG hP hD hS hA hl fin
  have hK := hG.1
  have hl : lv_has ls 1 [(0, .int v1)] := hl
  refine lv_iload_n hx hb dX0_callsDueAt_0 rfl (lv_at hl 0 rfl) ?_
  refine lv_if_ne (tgt := 7) hx hb dX0_callsDueAt_1 (by decide) (fun c_1 => ?_) (fun c_1 => ?_)
  · refine lv_iload_n hx hb dX0_callsDueAt_7 rfl (lv_at hl 0 rfl) ?_
    refine lv_bipush (v := 60) hx hb dX0_callsDueAt_8 (by decide) ?_
    refine lv_irem hx hb dX0_callsDueAt_10 (by decide) ?_
    refine lv_if_ne (tgt := 19) hx hb dX0_callsDueAt_11 (by decide) (fun c_11 => ?_) (fun c_11 => ?_)
    · refine lv_iload_n hx hb dX0_callsDueAt_19 rfl (lv_at hl 0 rfl) ?_
      refine lv_bipush (v := 30) hx hb dX0_callsDueAt_20 (by decide) ?_
      refine lv_irem hx hb dX0_callsDueAt_22 (by decide) ?_
      refine lv_if_ne (tgt := 30) hx hb dX0_callsDueAt_23 (by decide) (fun c_23 => ?_) (fun c_23 => ?_)
      · refine lv_iconst (v := 0) hx hb dX0_callsDueAt_30 (by decide) ?_
        exact fin _ _ _ _ _ rfl (by simp only [k_due, if_neg c_1, if_neg c_11, if_neg c_23, reduceIte]) hP hS dX0_callsDueAt_31
      · refine lv_iconst (v := 1) hx hb dX0_callsDueAt_26 (by decide) ?_
        refine lv_goto (tgt := 31) hx hb dX0_callsDueAt_27 (by decide) ?_
        exact fin _ _ _ _ _ rfl (by simp only [k_due, if_neg c_1, if_neg c_11, if_pos c_23, reduceIte]) hP hS dX0_callsDueAt_31
    · refine lv_iload_n hx hb dX0_callsDueAt_14 rfl (lv_at hl 0 rfl) ?_
      refine lv_bipush (v := 60) hx hb dX0_callsDueAt_15 (by decide) ?_
      refine lv_idiv hx hb dX0_callsDueAt_17 (by decide) ?_
      exact fin _ _ _ _ _ rfl (by simp only [k_due, if_neg c_1, if_pos c_11, reduceIte]) hP hS dX0_callsDueAt_18
  · refine lv_bipush (v := 12) hx hb dX0_callsDueAt_4 (by decide) ?_
    exact fin _ _ _ _ _ rfl (by simp only [k_due, if_pos c_1, reduceIte]) hP hS dX0_callsDueAt_6

set_option maxHeartbeats 4000000 in
set_option maxRecDepth 100000 in
theorem m_X0_reading (l : Launch) (D : va_G) (C : Nat → ClassId) (h0 : Nat) (K : Nat → Int32) (v1 : Int32) : cu_I l D C yX0_reading wsX0_reading { frames := 2, cells := 0, slots := 0, locals := 43 } [.ref h0, .int v1] (cu_wc h0 K) (cu_wc h0 K) (k_read K v1) 0 0 := by
  refine cu_openI (cc := cX0_reading) (maxL := 2) (ty := .int) (own := RX0) (by decide) rfl rfl (Nat.le_of_ble_eq_true rfl) ?_
  intro p e s m args below meth c A Z H0 ls e0 hx hb hml hts hown hnm hG hP hD hS hA hl fin
  have hK := hG.1
  have hl : lv_has ls 2 [(0, .ref h0), (1, .int v1)] := hl
  have hiX0 : ∀ w ∈ wsX00, w ∈ wsX0_reading := by decide +kernel
  refine lv_iload_n hx hb dX0_reading_0 rfl (lv_at hl 1 rfl) ?_
  by_cases s_0 : v1 = 0
  · subst s_0
    refine lv_tableIn (off := 55) (tgt := 56) hx hb dX0_reading_1 (by decide) (by decide) (by decide) (by decide) ?_
    refine lv_aload_n hx hb dX0_reading_56 rfl (lv_at hl 0 rfl) ?_
    refine va_get (D := D) (ci := 0) (v := .int (K 0)) (C := RX0) (T := TX0) (N := 14) hx hb hts hiX0 hown hK hP 0 rfl rfl 7 (by decide) (hts (.fieldLink RX0 34 "CuckooShop$Clock" "shown" "I") (by decide +kernel)) (fun _ h9 => h9) rfl dX0_reading_57 ?_
    exact fin _ _ _ _ _ rfl (by simp only [k_read, reduceIte]) hP hS dX0_reading_60
  by_cases s_1 : v1 = 1
  · subst s_1
    refine lv_tableIn (off := 60) (tgt := 61) hx hb dX0_reading_1 (by decide) (by decide) (by decide) (by decide) ?_
    refine lv_aload_n hx hb dX0_reading_61 rfl (lv_at hl 0 rfl) ?_
    refine va_get (D := D) (ci := 0) (v := .int (K 1)) (C := RX0) (T := TX0) (N := 14) hx hb hts hiX0 hown hK hP 0 rfl rfl 8 (by decide) (hts (.fieldLink RX0 37 "CuckooShop$Clock" "rest" "I") (by decide +kernel)) (fun _ h9 => h9) rfl dX0_reading_62 ?_
    exact fin _ _ _ _ _ rfl (by simp only [k_read, if_neg s_0, reduceIte]) hP hS dX0_reading_65
  by_cases s_2 : v1 = 2
  · subst s_2
    refine lv_tableIn (off := 65) (tgt := 66) hx hb dX0_reading_1 (by decide) (by decide) (by decide) (by decide) ?_
    refine lv_aload_n hx hb dX0_reading_66 rfl (lv_at hl 0 rfl) ?_
    refine va_get (D := D) (ci := 0) (v := .int (K 2)) (C := RX0) (T := TX0) (N := 14) hx hb hts hiX0 hown hK hP 0 rfl rfl 3 (by decide) (hts (.fieldLink RX0 21 "CuckooShop$Clock" "chain" "I") (by decide +kernel)) (fun _ h9 => h9) rfl dX0_reading_67 ?_
    exact fin _ _ _ _ _ rfl (by simp only [k_read, if_neg s_0, if_neg s_1, reduceIte]) hP hS dX0_reading_70
  by_cases s_3 : v1 = 3
  · subst s_3
    refine lv_tableIn (off := 70) (tgt := 71) hx hb dX0_reading_1 (by decide) (by decide) (by decide) (by decide) ?_
    refine lv_aload_n hx hb dX0_reading_71 rfl (lv_at hl 0 rfl) ?_
    refine va_get (D := D) (ci := 0) (v := .int (K 3)) (C := RX0) (T := TX0) (N := 14) hx hb hts hiX0 hown hK hP 0 rfl rfl 4 (by decide) (hts (.fieldLink RX0 24 "CuckooShop$Clock" "oil" "I") (by decide +kernel)) (fun _ h9 => h9) rfl dX0_reading_72 ?_
    exact fin _ _ _ _ _ rfl (by simp only [k_read, if_neg s_0, if_neg s_1, if_neg s_2, reduceIte]) hP hS dX0_reading_75
  by_cases s_4 : v1 = 4
  · subst s_4
    refine lv_tableIn (off := 75) (tgt := 76) hx hb dX0_reading_1 (by decide) (by decide) (by decide) (by decide) ?_
    refine lv_aload_n hx hb dX0_reading_76 rfl (lv_at hl 0 rfl) ?_
    refine va_get (D := D) (ci := 0) (v := .int (K 4)) (C := RX0) (T := TX0) (N := 14) hx hb hts hiX0 hown hK hP 0 rfl rfl 5 (by decide) (hts (.fieldLink RX0 27 "CuckooShop$Clock" "bellows" "I") (by decide +kernel)) (fun _ h9 => h9) rfl dX0_reading_77 ?_
    exact fin _ _ _ _ _ rfl (by simp only [k_read, if_neg s_0, if_neg s_1, if_neg s_2, if_neg s_3, reduceIte]) hP hS dX0_reading_80
  by_cases s_5 : v1 = 5
  · subst s_5
    refine lv_tableIn (off := 80) (tgt := 81) hx hb dX0_reading_1 (by decide) (by decide) (by decide) (by decide) ?_
    refine lv_aload_n hx hb dX0_reading_81 rfl (lv_at hl 0 rfl) ?_
    refine va_get (D := D) (ci := 0) (v := .int (K 5)) (C := RX0) (T := TX0) (N := 14) hx hb hts hiX0 hown hK hP 0 rfl rfl 6 (by decide) (hts (.fieldLink RX0 30 "CuckooShop$Clock" "goes" "Z") (by decide +kernel)) (fun _ h9 => h9) rfl dX0_reading_82 ?_
    refine lv_if_eq (tgt := 92) hx hb dX0_reading_85 (by decide) (fun c_85 => ?_) (fun c_85 => ?_)
    · refine lv_iconst (v := 0) hx hb dX0_reading_92 (by decide) ?_
      exact fin _ _ _ _ _ rfl (by simp only [k_read, if_neg s_0, if_neg s_1, if_neg s_2, if_neg s_3, if_neg s_4, if_pos c_85, reduceIte]) hP hS dX0_reading_93
    · refine lv_iconst (v := 1) hx hb dX0_reading_88 (by decide) ?_
      refine lv_goto (tgt := 93) hx hb dX0_reading_89 (by decide) ?_
      exact fin _ _ _ _ _ rfl (by simp only [k_read, if_neg s_0, if_neg s_1, if_neg s_2, if_neg s_3, if_neg s_4, if_neg c_85, reduceIte]) hP hS dX0_reading_93
  by_cases s_6 : v1 = 6
  · subst s_6
    refine lv_tableIn (off := 93) (tgt := 94) hx hb dX0_reading_1 (by decide) (by decide) (by decide) (by decide) ?_
    refine lv_aload_n hx hb dX0_reading_94 rfl (lv_at hl 0 rfl) ?_
    have sp := cu_sp.all (W0 := (cu_wc h0 K)) (W1 := (cu_wc h0 K)) rfl
    refine cu_callI (va_runV (As := []) (rest := []) ⟨hx, hb, hml, hown, hts⟩ ((m_X0_advance l D C h0 K) H0.size) (cwV 0 hts gX0_reading_X0_advance rfl rfl rfl (by decide +kernel) ⟨Nat.le_of_ble_eq_true rfl, Nat.le_of_ble_eq_true rfl⟩) (cu_preV (ci := 0) sp hG hP hD rfl rfl) rfl rfl hl.1 rfl (lv_room (Nat.le_of_ble_eq_true rfl)) dX0_reading_95 ⟨Nat.le_of_ble_eq_true rfl, Nat.le_of_ble_eq_true rfl⟩) sp hP hD hS hA (fun H locs hP hD hS => ?_)
    have hP : va_P D vwCl (cu_wc h0 K) H := hP
    have hD : va_D A (cu_wc h0 K) := hD
    exact fin _ _ _ _ _ rfl (by simp only [k_read, if_neg s_0, if_neg s_1, if_neg s_2, if_neg s_3, if_neg s_4, if_neg s_5, reduceIte]) hP hS dX0_reading_98
  by_cases s_7 : v1 = 7
  · subst s_7
    refine lv_tableIn (off := 98) (tgt := 99) hx hb dX0_reading_1 (by decide) (by decide) (by decide) (by decide) ?_
    refine lv_aload_n hx hb dX0_reading_99 rfl (lv_at hl 0 rfl) ?_
    refine va_get (D := D) (ci := 0) (v := .int (K 6)) (C := RX0) (T := TX0) (N := 14) hx hb hts hiX0 hown hK hP 0 rfl rfl 11 (by decide) (hts (.fieldLink RX0 46 "CuckooShop$Clock" "calls" "I") (by decide +kernel)) (fun _ h9 => h9) rfl dX0_reading_100 ?_
    exact fin _ _ _ _ _ rfl (by simp only [k_read, if_neg s_0, if_neg s_1, if_neg s_2, if_neg s_3, if_neg s_4, if_neg s_5, if_neg s_6, reduceIte]) hP hS dX0_reading_103
  by_cases s_8 : v1 = 8
  · subst s_8
    refine lv_tableIn (off := 103) (tgt := 104) hx hb dX0_reading_1 (by decide) (by decide) (by decide) (by decide) ?_
    refine lv_aload_n hx hb dX0_reading_104 rfl (lv_at hl 0 rfl) ?_
    refine va_get (D := D) (ci := 0) (v := .int (K 7)) (C := RX0) (T := TX0) (N := 14) hx hb hts hiX0 hown hK hP 0 rfl rfl 12 (by decide) (hts (.fieldLink RX0 49 "CuckooShop$Clock" "missed" "I") (by decide +kernel)) (fun _ h9 => h9) rfl dX0_reading_105 ?_
    exact fin _ _ _ _ _ rfl (by simp only [k_read, if_neg s_0, if_neg s_1, if_neg s_2, if_neg s_3, if_neg s_4, if_neg s_5, if_neg s_6, if_neg s_7, reduceIte]) hP hS dX0_reading_108
  by_cases s_9 : v1 = 9
  · subst s_9
    refine lv_tableIn (off := 108) (tgt := 109) hx hb dX0_reading_1 (by decide) (by decide) (by decide) (by decide) ?_
    refine lv_aload_n hx hb dX0_reading_109 rfl (lv_at hl 0 rfl) ?_
    refine va_get (D := D) (ci := 0) (v := .int (K 8)) (C := RX0) (T := TX0) (N := 14) hx hb hts hiX0 hown hK hP 0 rfl rfl 13 (by decide) (hts (.fieldLink RX0 52 "CuckooShop$Clock" "latestCalls" "I") (by decide +kernel)) (fun _ h9 => h9) rfl dX0_reading_110 ?_
    exact fin _ _ _ _ _ rfl (by simp only [k_read, if_neg s_0, if_neg s_1, if_neg s_2, if_neg s_3, if_neg s_4, if_neg s_5, if_neg s_6, if_neg s_7, if_neg s_8, reduceIte]) hP hS dX0_reading_113
  refine lv_tableOut (tgt := 114) hx hb dX0_reading_1 (by have q_0 := cu_ne s_0 0 (by decide); have q_1 := cu_ne s_1 1 (by decide); have q_2 := cu_ne s_2 2 (by decide); have q_3 := cu_ne s_3 3 (by decide); have q_4 := cu_ne s_4 4 (by decide); have q_5 := cu_ne s_5 5 (by decide); have q_6 := cu_ne s_6 6 (by decide); have q_7 := cu_ne s_7 7 (by decide); have q_8 := cu_ne s_8 8 (by decide); have q_9 := cu_ne s_9 9 (by decide); omega) (by decide) ?_
  refine lv_aload_n hx hb dX0_reading_114 rfl (lv_at hl 0 rfl) ?_
  refine lv_aload_n hx hb dX0_reading_115 rfl (lv_at hl 0 rfl) ?_
  refine va_get (D := D) (ci := 0) (v := .int (K 0)) (C := RX0) (T := TX0) (N := 14) hx hb hts hiX0 hown hK hP 0 rfl rfl 7 (by decide) (hts (.fieldLink RX0 34 "CuckooShop$Clock" "shown" "I") (by decide +kernel)) (fun _ h9 => h9) rfl dX0_reading_116 ?_
  have sp := cu_sp.all (W0 := (cu_wc h0 K)) (W1 := (cu_wc h0 K)) rfl
  refine cu_callI (va_runV (As := [.int (K 0)]) (rest := []) ⟨hx, hb, hml, hown, hts⟩ ((m_X0_isShutAt l D C h0 K (K 0)) H0.size) (cwV 1 hts gX0_reading_X0_isShutAt rfl rfl rfl (by decide +kernel) ⟨Nat.le_of_ble_eq_true rfl, Nat.le_of_ble_eq_true rfl⟩) (cu_preV (ci := 0) sp hG hP hD rfl rfl) rfl rfl hl.1 rfl (lv_room (Nat.le_of_ble_eq_true rfl)) dX0_reading_119 ⟨Nat.le_of_ble_eq_true rfl, Nat.le_of_ble_eq_true rfl⟩) sp hP hD hS hA (fun H locs hP hD hS => ?_)
  have hP : va_P D vwCl (cu_wc h0 K) H := hP
  have hD : va_D A (cu_wc h0 K) := hD
  refine lv_if_eq (tgt := 129) hx hb dX0_reading_122 (by decide) (fun c_122 => ?_) (fun c_122 => ?_)
  · refine lv_iconst (v := 0) hx hb dX0_reading_129 (by decide) ?_
    exact fin _ _ _ _ _ rfl (by simp only [k_read, if_neg s_0, if_neg s_1, if_neg s_2, if_neg s_3, if_neg s_4, if_neg s_5, if_neg s_6, if_neg s_7, if_neg s_8, if_neg s_9, if_pos c_122, reduceIte]) hP hS dX0_reading_130
  · refine lv_iconst (v := 1) hx hb dX0_reading_125 (by decide) ?_
    refine lv_goto (tgt := 130) hx hb dX0_reading_126 (by decide) ?_
    exact fin _ _ _ _ _ rfl (by simp only [k_read, if_neg s_0, if_neg s_1, if_neg s_2, if_neg s_3, if_neg s_4, if_neg s_5, if_neg s_6, if_neg s_7, if_neg s_8, if_neg s_9, if_neg c_122, reduceIte]) hP hS dX0_reading_130
end
section
set_option maxHeartbeats 4000000 in
set_option maxRecDepth 100000 in
theorem m_X0_turn (l : Launch) (D : va_G) (C : Nat → ClassId) (h0 : Nat) (K : Nat → Int32) : cu_V l D C yX0_turn wsX0_turn { frames := 2, cells := 0, slots := 0, locals := 43 } [.ref h0] (cu_wc h0 K) (cu_wc h0 (k_turn K)) 0 0 := by
  refine cu_openV (cc := cX0_turn) (maxL := 3) (own := RX0) (by decide) rfl rfl (Nat.le_of_ble_eq_true rfl) ?_
  intro p e s m args below meth c A Z H0 ls e0 hx hb hml hts hown hnm hG hP hD hS hA hl fin
  have hK := hG.1
  have hl : lv_has ls 3 [(0, .ref h0)] := hl
  have hiX0 : ∀ w ∈ wsX00, w ∈ wsX0_turn := by decide +kernel
  refine lv_aload_n hx hb dX0_turn_0 rfl (lv_at hl 0 rfl) ?_
  refine va_get (D := D) (ci := 0) (v := .int (K 1)) (C := RX0) (T := TX0) (N := 14) hx hb hts hiX0 hown hK hP 0 rfl rfl 8 (by decide) (hts (.fieldLink RX0 37 "CuckooShop$Clock" "rest" "I") (by decide +kernel)) (fun _ h9 => h9) rfl dX0_turn_1 ?_
  refine lv_aload_n hx hb dX0_turn_4 rfl (lv_at hl 0 rfl) ?_
  have sp := cu_sp.all (W0 := (cu_wc h0 K)) (W1 := (cu_wc h0 K)) rfl
  refine cu_callI (va_runV (As := []) (rest := [.int (K 1)]) ⟨hx, hb, hml, hown, hts⟩ ((m_X0_advance l D C h0 K) H0.size) (cwV 0 hts gX0_turn_X0_advance rfl rfl rfl (by decide +kernel) ⟨Nat.le_of_ble_eq_true rfl, Nat.le_of_ble_eq_true rfl⟩) (cu_preV (ci := 0) sp hG hP hD rfl rfl) rfl rfl hl.1 rfl (lv_room (Nat.le_of_ble_eq_true rfl)) dX0_turn_5 ⟨Nat.le_of_ble_eq_true rfl, Nat.le_of_ble_eq_true rfl⟩) sp hP hD hS hA (fun H locs hP hD hS => ?_)
  have hP : va_P D vwCl (cu_wc h0 K) H := hP
  have hD : va_D A (cu_wc h0 K) := hD
  refine lv_iadd hx hb dX0_turn_8 ?_
  refine lv_istore_n (lv' := [(1, .int ((K 1) + (k_adv K))), (0, .ref h0)]) hx hb dX0_turn_9 rfl hl (by decide) rfl (fun ls hl => ?_)
  refine lv_aload_n hx hb dX0_turn_10 rfl (lv_at hl 1 rfl) ?_
  refine lv_iload_n hx hb dX0_turn_11 rfl (lv_at hl 0 rfl) ?_
  refine lv_sipush (v := 900) hx hb dX0_turn_12 (by decide) ?_
  refine lv_irem hx hb dX0_turn_15 (by decide) ?_
  refine va_put (D := D) (ci := 0) (v := .int (((K 1) + (k_adv K)) - ((K 1) + (k_adv K)) / 900 * 900)) (ty := .int) (C := RX0) (T := TX0) (N := 14) hx hb hts hiX0 tyX0 tyX0_ok nmX0 hown hK hP hD hS 0 rfl rfl 8 (by decide) (hts (.fieldLink RX0 37 "CuckooShop$Clock" "rest" "I") (by decide +kernel)) (fun _ h9 => h9) rfl (by decide +kernel) rfl rfl (Nat.le_of_ble_eq_true rfl) dX0_turn_16 (fun H locs hP hD hS => ?_)
  have hP : va_P D vwCl (cu_wc h0 (upd K 1 (((K 1) + (k_adv K)) - ((K 1) + (k_adv K)) / 900 * 900))) H := hP
  have hD : va_D A (cu_wc h0 (upd K 1 (((K 1) + (k_adv K)) - ((K 1) + (k_adv K)) / 900 * 900))) := hD
  refine lv_iload_n hx hb dX0_turn_19 rfl (lv_at hl 0 rfl) ?_
  refine lv_sipush (v := 900) hx hb dX0_turn_20 (by decide) ?_
  refine lv_idiv hx hb dX0_turn_23 (by decide) ?_
  refine lv_istore_n (lv' := [(2, .int (((K 1) + (k_adv K)) / 900)), (1, .int ((K 1) + (k_adv K))), (0, .ref h0)]) hx hb dX0_turn_24 rfl hl (by decide) rfl (fun ls hl => ?_)
  have loop : ∀ (j : Nat), ∀ (Kc : Nat → Int32) (lf : Int32), lf.toInt.toNat = j → k_ticks j Kc = k_turn K → ∀ (H : Heap) (locs : List Loc) (ls : Array Slot), va_P D vwCl (cu_wc h0 Kc) H → va_D A (cu_wc h0 Kc) → va_S A H0 H locs → lv_has ls 3 [(0, .ref h0), (1, .int ((K 1) + (k_adv K))), (2, .int lf)] → W p l e { frames := 2, cells := 0, slots := 0, locals := 43 } s m args below meth c H locs 0 0 Z (F0 m 25 ls []) := by
    intro j
    induction j with
    | zero =>
      intro Kc lf hj hf H locs ls hP hD hS hl
      refine lv_iload_n hx hb dX0_turn_25 rfl (lv_at hl 2 rfl) ?_
      refine lv_if_le (tgt := 71) hx hb dX0_turn_26 (by decide) (fun c_26 => ?_) (fun c_26 => absurd (cu_dn0 hj) c_26)
      exact fin _ _ _ _ (by rw [← hf]; exact hP) hS dX0_turn_71
    | succ j ih =>
      intro Kc lf hj hf H locs ls hP hD hS hl
      refine lv_iload_n hx hb dX0_turn_25 rfl (lv_at hl 2 rfl) ?_
      refine lv_if_le (tgt := 71) hx hb dX0_turn_26 (by decide) (fun c_26 => absurd c_26 (cu_dn1 hj)) (fun c_26 => ?_)
      refine lv_aload_n hx hb dX0_turn_29 rfl (lv_at hl 0 rfl) ?_
      refine lv_aload_n hx hb dX0_turn_30 rfl (lv_at hl 0 rfl) ?_
      refine va_get (D := D) (ci := 0) (v := .int (Kc 0)) (C := RX0) (T := TX0) (N := 14) hx hb hts hiX0 hown hK hP 0 rfl rfl 7 (by decide) (hts (.fieldLink RX0 34 "CuckooShop$Clock" "shown" "I") (by decide +kernel)) (fun _ h9 => h9) rfl dX0_turn_31 ?_
      refine lv_iconst (v := 1) hx hb dX0_turn_34 (by decide) ?_
      refine lv_iadd hx hb dX0_turn_35 ?_
      refine lv_sipush (v := 720) hx hb dX0_turn_36 (by decide) ?_
      refine lv_irem hx hb dX0_turn_39 (by decide) ?_
      refine va_put (D := D) (ci := 0) (v := .int (((Kc 0) + 1) - ((Kc 0) + 1) / 720 * 720)) (ty := .int) (C := RX0) (T := TX0) (N := 14) hx hb hts hiX0 tyX0 tyX0_ok nmX0 hown hK hP hD hS 0 rfl rfl 7 (by decide) (hts (.fieldLink RX0 34 "CuckooShop$Clock" "shown" "I") (by decide +kernel)) (fun _ h9 => h9) rfl (by decide +kernel) rfl rfl (Nat.le_of_ble_eq_true rfl) dX0_turn_40 (fun H locs hP hD hS => ?_)
      have hP : va_P D vwCl (cu_wc h0 (upd Kc 0 (((Kc 0) + 1) - ((Kc 0) + 1) / 720 * 720))) H := hP
      have hD : va_D A (cu_wc h0 (upd Kc 0 (((Kc 0) + 1) - ((Kc 0) + 1) / 720 * 720))) := hD
      refine lv_aload_n hx hb dX0_turn_43 rfl (lv_at hl 0 rfl) ?_
      refine lv_aload_n hx hb dX0_turn_44 rfl (lv_at hl 0 rfl) ?_
      refine va_get (D := D) (ci := 0) (v := .int (((Kc 0) + 1) - ((Kc 0) + 1) / 720 * 720)) (C := RX0) (T := TX0) (N := 14) hx hb hts hiX0 hown hK hP 0 rfl rfl 7 (by decide) (hts (.fieldLink RX0 34 "CuckooShop$Clock" "shown" "I") (by decide +kernel)) (fun _ h9 => h9) rfl dX0_turn_45 ?_
      have sp := cu_sp.all (W0 := (cu_wc h0 (upd Kc 0 (((Kc 0) + 1) - ((Kc 0) + 1) / 720 * 720)))) (W1 := (cu_wc h0 (upd Kc 0 (((Kc 0) + 1) - ((Kc 0) + 1) / 720 * 720)))) rfl
      refine cu_callI (va_runV (As := [.int (((Kc 0) + 1) - ((Kc 0) + 1) / 720 * 720)]) (rest := []) ⟨hx, hb, hml, hown, hts⟩ ((m_X0_isShutAt l D C h0 (upd Kc 0 (((Kc 0) + 1) - ((Kc 0) + 1) / 720 * 720)) (((Kc 0) + 1) - ((Kc 0) + 1) / 720 * 720)) H.size) (cwV 1 hts gX0_turn_X0_isShutAt rfl rfl rfl (by decide +kernel) ⟨Nat.le_of_ble_eq_true rfl, Nat.le_of_ble_eq_true rfl⟩) (cu_preV (ci := 0) sp hG hP hD rfl rfl) rfl rfl hl.1 rfl (lv_room (Nat.le_of_ble_eq_true rfl)) dX0_turn_48 ⟨Nat.le_of_ble_eq_true rfl, Nat.le_of_ble_eq_true rfl⟩) sp hP hD hS hA (fun H locs hP hD hS => ?_)
      have hP : va_P D vwCl (cu_wc h0 (upd Kc 0 (((Kc 0) + 1) - ((Kc 0) + 1) / 720 * 720))) H := hP
      have hD : va_D A (cu_wc h0 (upd Kc 0 (((Kc 0) + 1) - ((Kc 0) + 1) / 720 * 720))) := hD
      refine lv_if_ne (tgt := 65) hx hb dX0_turn_51 (by decide) (fun c_51 => ?_) (fun c_51 => ?_)
      · refine lv_iinc (v := (lf + (-1))) (lv' := [(2, .int (lf + (-1))), (0, .ref h0), (1, .int ((K 1) + (k_adv K)))]) hx hb dX0_turn_65 hl (k := 2) rfl rfl (by decide) rfl (fun ls hl => ?_)
        refine lv_goto (tgt := 25) hx hb dX0_turn_68 (by decide) ?_
        exact ih _ _ (cu_dn hj) (by rw [← hf]; simp only [k_ticks]; congr 1; simp only [k_tick]; exact (if_neg c_51).symm) _ _ _ hP hD hS (lv_sub hl [1, 2, 0] rfl)
      · refine lv_aload_n hx hb dX0_turn_54 rfl (lv_at hl 0 rfl) ?_
        refine lv_aload_n hx hb dX0_turn_55 rfl (lv_at hl 0 rfl) ?_
        refine va_get (D := D) (ci := 0) (v := .int (((Kc 0) + 1) - ((Kc 0) + 1) / 720 * 720)) (C := RX0) (T := TX0) (N := 14) hx hb hts hiX0 hown hK hP 0 rfl rfl 7 (by decide) (hts (.fieldLink RX0 34 "CuckooShop$Clock" "shown" "I") (by decide +kernel)) (fun _ h9 => h9) rfl dX0_turn_56 ?_
        have sp := cu_sp.nil (W0 := (cu_wc h0 (upd Kc 0 (((Kc 0) + 1) - ((Kc 0) + 1) / 720 * 720))))
        refine cu_callI (va_runS (As := [.int (((Kc 0) + 1) - ((Kc 0) + 1) / 720 * 720)]) (rest := [.ref h0]) ⟨hx, hb, hml, hown, hts⟩ ((m_X0_callsDueAt l D C (((Kc 0) + 1) - ((Kc 0) + 1) / 720 * 720)) H.size) (va_cwS 1 hts gX0_turn_X0_callsDueAt rfl rfl rfl (by decide +kernel) ⟨Nat.le_of_ble_eq_true rfl, Nat.le_of_ble_eq_true rfl⟩) (cu_preS sp hG hP hD) rfl rfl hl.1 rfl (lv_room (Nat.le_of_ble_eq_true rfl)) dX0_turn_59 ⟨Nat.le_of_ble_eq_true rfl, Nat.le_of_ble_eq_true rfl⟩) sp hP hD hS hA (fun H locs hP hD hS => ?_)
        have sp := cu_sp.all (W0 := (cu_wc h0 (upd Kc 0 (((Kc 0) + 1) - ((Kc 0) + 1) / 720 * 720)))) (W1 := (cu_wc h0 (k_cuckoo (upd Kc 0 (((Kc 0) + 1) - ((Kc 0) + 1) / 720 * 720)) (k_due (((Kc 0) + 1) - ((Kc 0) + 1) / 720 * 720))))) rfl
        refine cu_callV (va_runV (As := [.int (k_due (((Kc 0) + 1) - ((Kc 0) + 1) / 720 * 720))]) (rest := []) ⟨hx, hb, hml, hown, hts⟩ ((m_X0_cuckoo l D C h0 (upd Kc 0 (((Kc 0) + 1) - ((Kc 0) + 1) / 720 * 720)) (k_due (((Kc 0) + 1) - ((Kc 0) + 1) / 720 * 720))) H.size) (cwV 1 hts gX0_turn_X0_cuckoo rfl rfl rfl (by decide +kernel) ⟨Nat.le_of_ble_eq_true rfl, Nat.le_of_ble_eq_true rfl⟩) (cu_preV (ci := 0) sp hG hP hD rfl rfl) rfl rfl hl.1 rfl (lv_room (Nat.le_of_ble_eq_true rfl)) dX0_turn_62 ⟨Nat.le_of_ble_eq_true rfl, Nat.le_of_ble_eq_true rfl⟩) sp hP hD hS hA (fun H locs hP hD hS => ?_)
        have hP : va_P D vwCl (cu_wc h0 (k_cuckoo (upd Kc 0 (((Kc 0) + 1) - ((Kc 0) + 1) / 720 * 720)) (k_due (((Kc 0) + 1) - ((Kc 0) + 1) / 720 * 720)))) H := hP
        have hD : va_D A (cu_wc h0 (k_cuckoo (upd Kc 0 (((Kc 0) + 1) - ((Kc 0) + 1) / 720 * 720)) (k_due (((Kc 0) + 1) - ((Kc 0) + 1) / 720 * 720)))) := hD
        refine lv_iinc (v := (lf + (-1))) (lv' := [(2, .int (lf + (-1))), (0, .ref h0), (1, .int ((K 1) + (k_adv K)))]) hx hb dX0_turn_65 hl (k := 2) rfl rfl (by decide) rfl (fun ls hl => ?_)
        refine lv_goto (tgt := 25) hx hb dX0_turn_68 (by decide) ?_
        exact ih _ _ (cu_dn hj) (by rw [← hf]; simp only [k_ticks]; congr 1; simp only [k_tick]; exact (if_pos c_51).symm) _ _ _ hP hD hS (lv_sub hl [1, 2, 0] rfl)
  exact loop _ _ _ rfl rfl _ _ _ hP hD hS (lv_sub hl [2, 1, 0] rfl)

set_option maxHeartbeats 4000000 in
set_option maxRecDepth 100000 in
theorem m_X0_runMinute (l : Launch) (D : va_G) (C : Nat → ClassId) (h0 : Nat) (K : Nat → Int32) (v1 : Int32) : cu_V l D C yX0_runMinute wsX0_runMinute { frames := 3, cells := 0, slots := 0, locals := 65 } [.ref h0, .int v1] (cu_wc h0 K) (cu_wc h0 (k_min v1 K)) 0 0 := by
  refine cu_openV (cc := cX0_runMinute) (maxL := 2) (own := RX0) (by decide) rfl rfl (Nat.le_of_ble_eq_true rfl) ?_
  intro p e s m args below meth c A Z H0 ls e0 hx hb hml hts hown hnm hG hP hD hS hA hl fin
  have hK := hG.1
  have hl : lv_has ls 2 [(0, .ref h0), (1, .int v1)] := hl
  have hiX0 : ∀ w ∈ wsX00, w ∈ wsX0_runMinute := by decide +kernel
  refine lv_aload_n hx hb dX0_runMinute_0 rfl (lv_at hl 0 rfl) ?_
  refine lv_iconst (v := 0) hx hb dX0_runMinute_1 (by decide) ?_
  refine va_put (D := D) (ci := 0) (v := .int 0) (ty := .int) (C := RX0) (T := TX0) (N := 14) hx hb hts hiX0 tyX0 tyX0_ok nmX0 hown hK hP hD hS 0 rfl rfl 13 (by decide) (hts (.fieldLink RX0 52 "CuckooShop$Clock" "latestCalls" "I") (by decide +kernel)) (fun _ h9 => h9) rfl (by decide +kernel) rfl rfl (Nat.le_of_ble_eq_true rfl) dX0_runMinute_2 (fun H locs hP hD hS => ?_)
  have hP : va_P D vwCl (cu_wc h0 (upd K 8 0)) H := hP
  have hD : va_D A (cu_wc h0 (upd K 8 0)) := hD
  refine lv_aload_n hx hb dX0_runMinute_5 rfl (lv_at hl 0 rfl) ?_
  refine va_get (D := D) (ci := 0) (v := .int (K 5)) (C := RX0) (T := TX0) (N := 14) hx hb hts hiX0 hown hK hP 0 rfl rfl 6 (by decide) (hts (.fieldLink RX0 30 "CuckooShop$Clock" "goes" "Z") (by decide +kernel)) (fun _ h9 => h9) rfl dX0_runMinute_6 ?_
  refine lv_if_eq (tgt := 21) hx hb dX0_runMinute_9 (by decide) (fun c_9 => ?_) (fun c_9 => ?_)
  · exact fin _ _ _ _ (by simpa only [k_min, if_pos c_9, reduceIte] using hP) hS dX0_runMinute_21
  · refine lv_aload_n hx hb dX0_runMinute_12 rfl (lv_at hl 0 rfl) ?_
    have sp := cu_sp.all (W0 := (cu_wc h0 (upd K 8 0))) (W1 := (cu_wc h0 (k_turn (upd K 8 0)))) rfl
    refine cu_callV (va_runV (As := []) (rest := []) ⟨hx, hb, hml, hown, hts⟩ ((m_X0_turn l D C h0 (upd K 8 0)) H.size) (cwV 0 hts gX0_runMinute_X0_turn rfl rfl rfl (by decide +kernel) ⟨Nat.le_of_ble_eq_true rfl, Nat.le_of_ble_eq_true rfl⟩) (cu_preV (ci := 0) sp hG hP hD rfl rfl) rfl rfl hl.1 rfl (lv_room (Nat.le_of_ble_eq_true rfl)) dX0_runMinute_13 ⟨Nat.le_of_ble_eq_true rfl, Nat.le_of_ble_eq_true rfl⟩) sp hP hD hS hA (fun H locs hP hD hS => ?_)
    have hP : va_P D vwCl (cu_wc h0 (k_turn (upd K 8 0))) H := hP
    have hD : va_D A (cu_wc h0 (k_turn (upd K 8 0))) := hD
    refine lv_aload_n hx hb dX0_runMinute_16 rfl (lv_at hl 0 rfl) ?_
    refine lv_iload_n hx hb dX0_runMinute_17 rfl (lv_at hl 1 rfl) ?_
    have sp := cu_sp.all (W0 := (cu_wc h0 (k_turn (upd K 8 0)))) (W1 := (cu_wc h0 (k_wear v1 (k_turn (upd K 8 0))))) rfl
    refine cu_callV (va_runV (As := [.int v1]) (rest := []) ⟨hx, hb, hml, hown, hts⟩ ((m_X0_wear l D C h0 (k_turn (upd K 8 0)) v1) H.size) (cwV 1 hts gX0_runMinute_X0_wear rfl rfl rfl (by decide +kernel) ⟨Nat.le_of_ble_eq_true rfl, Nat.le_of_ble_eq_true rfl⟩) (cu_preV (ci := 0) sp hG hP hD rfl rfl) rfl rfl hl.1 rfl (lv_room (Nat.le_of_ble_eq_true rfl)) dX0_runMinute_18 ⟨Nat.le_of_ble_eq_true rfl, Nat.le_of_ble_eq_true rfl⟩) sp hP hD hS hA (fun H locs hP hD hS => ?_)
    have hP : va_P D vwCl (cu_wc h0 (k_wear v1 (k_turn (upd K 8 0)))) H := hP
    have hD : va_D A (cu_wc h0 (k_wear v1 (k_turn (upd K 8 0)))) := hD
    exact fin _ _ _ _ (by simpa only [k_min, if_neg c_9, reduceIte] using hP) hS dX0_runMinute_21

set_option maxHeartbeats 4000000 in
set_option maxRecDepth 100000 in
theorem m_X0_minit (l : Launch) (D : va_G) (C : Nat → ClassId) (h0 : Nat) (K : Nat → Int32) : cu_V l D C yX0_init wsX0_init { frames := 1, cells := 0, slots := 0, locals := 12 } [.ref h0] (cu_wc h0 K) (cu_wc h0 (k_new K)) 0 0 := by
  refine cu_openV (cc := cX0_init) (maxL := 1) (own := RX0) (by decide) rfl rfl (Nat.le_of_ble_eq_true rfl) ?_
  intro p e s m args below meth c A Z H0 ls e0 hx hb hml hts hown hnm hG hP hD hS hA hl fin
  have hK := hG.1
  have hl : lv_has ls 1 [(0, .ref h0)] := hl
  have hiX0 : ∀ w ∈ wsX00, w ∈ wsX0_init := by decide +kernel
  refine lv_aload_n hx hb dX0_init_0 rfl (lv_at hl 0 rfl) ?_
  refine W.objInit hx hb hown (hts (.methodLink RX0 3 objectInit) (by decide +kernel)) (hts (.instanceMethod objectInit) (by decide +kernel)) (hts (.code objectInit ⟨#[0xb1]⟩ 1 none) (by decide +kernel)) rfl (by rw [hml]; exact hl.1) rfl dX0_init_1 (Nat.le_of_ble_eq_true rfl) (Nat.le_of_ble_eq_true rfl) ?_
  refine W.eq (g2 := F0 m 4 ls []) rfl ?_
  refine lv_aload_n hx hb dX0_init_4 rfl (lv_at hl 0 rfl) ?_
  refine lv_bipush (v := 30) hx hb dX0_init_5 (by decide) ?_
  refine va_put (D := D) (ci := 0) (v := .int 30) (ty := .int) (C := RX0) (T := TX0) (N := 14) hx hb hts hiX0 tyX0 tyX0_ok nmX0 hown hK hP hD hS 0 rfl rfl 0 (by decide) (hts (.fieldLink RX0 9 "CuckooShop$Clock" "gearA" "I") (by decide +kernel)) (fun _ h9 => h9) rfl (by decide +kernel) rfl rfl (Nat.le_of_ble_eq_true rfl) dX0_init_7 (fun H locs hP hD hS => ?_)
  have hP : va_P D vwCl (cu_wc h0 (upd K 9 30)) H := hP
  have hD : va_D A (cu_wc h0 (upd K 9 30)) := hD
  refine lv_aload_n hx hb dX0_init_10 rfl (lv_at hl 0 rfl) ?_
  refine lv_bipush (v := 30) hx hb dX0_init_11 (by decide) ?_
  refine va_put (D := D) (ci := 0) (v := .int 30) (ty := .int) (C := RX0) (T := TX0) (N := 14) hx hb hts hiX0 tyX0 tyX0_ok nmX0 hown hK hP hD hS 0 rfl rfl 1 (by decide) (hts (.fieldLink RX0 15 "CuckooShop$Clock" "gearB" "I") (by decide +kernel)) (fun _ h9 => h9) rfl (by decide +kernel) rfl rfl (Nat.le_of_ble_eq_true rfl) dX0_init_13 (fun H locs hP hD hS => ?_)
  have hP : va_P D vwCl (cu_wc h0 (upd (upd K 9 30) 10 30)) H := hP
  have hD : va_D A (cu_wc h0 (upd (upd K 9 30) 10 30)) := hD
  refine lv_aload_n hx hb dX0_init_16 rfl (lv_at hl 0 rfl) ?_
  refine lv_iconst (v := 0) hx hb dX0_init_17 (by decide) ?_
  refine va_put (D := D) (ci := 0) (v := .int 0) (ty := .int) (C := RX0) (T := TX0) (N := 14) hx hb hts hiX0 tyX0 tyX0_ok nmX0 hown hK hP hD hS 0 rfl rfl 2 (by decide) (hts (.fieldLink RX0 18 "CuckooShop$Clock" "swing" "I") (by decide +kernel)) (fun _ h9 => h9) rfl (by decide +kernel) rfl rfl (Nat.le_of_ble_eq_true rfl) dX0_init_18 (fun H locs hP hD hS => ?_)
  have hP : va_P D vwCl (cu_wc h0 (upd (upd (upd K 9 30) 10 30) 11 0)) H := hP
  have hD : va_D A (cu_wc h0 (upd (upd (upd K 9 30) 10 30) 11 0)) := hD
  refine lv_aload_n hx hb dX0_init_21 rfl (lv_at hl 0 rfl) ?_
  refine lv_sipush (v := 600) hx hb dX0_init_22 (by decide) ?_
  refine va_put (D := D) (ci := 0) (v := .int 600) (ty := .int) (C := RX0) (T := TX0) (N := 14) hx hb hts hiX0 tyX0 tyX0_ok nmX0 hown hK hP hD hS 0 rfl rfl 3 (by decide) (hts (.fieldLink RX0 21 "CuckooShop$Clock" "chain" "I") (by decide +kernel)) (fun _ h9 => h9) rfl (by decide +kernel) rfl rfl (Nat.le_of_ble_eq_true rfl) dX0_init_25 (fun H locs hP hD hS => ?_)
  have hP : va_P D vwCl (cu_wc h0 (upd (upd (upd (upd K 9 30) 10 30) 11 0) 2 600)) H := hP
  have hD : va_D A (cu_wc h0 (upd (upd (upd (upd K 9 30) 10 30) 11 0) 2 600)) := hD
  refine lv_aload_n hx hb dX0_init_28 rfl (lv_at hl 0 rfl) ?_
  refine lv_bipush (v := 100) hx hb dX0_init_29 (by decide) ?_
  refine va_put (D := D) (ci := 0) (v := .int 100) (ty := .int) (C := RX0) (T := TX0) (N := 14) hx hb hts hiX0 tyX0 tyX0_ok nmX0 hown hK hP hD hS 0 rfl rfl 4 (by decide) (hts (.fieldLink RX0 24 "CuckooShop$Clock" "oil" "I") (by decide +kernel)) (fun _ h9 => h9) rfl (by decide +kernel) rfl rfl (Nat.le_of_ble_eq_true rfl) dX0_init_31 (fun H locs hP hD hS => ?_)
  have hP : va_P D vwCl (cu_wc h0 (upd (upd (upd (upd (upd K 9 30) 10 30) 11 0) 2 600) 3 100)) H := hP
  have hD : va_D A (cu_wc h0 (upd (upd (upd (upd (upd K 9 30) 10 30) 11 0) 2 600) 3 100)) := hD
  refine lv_aload_n hx hb dX0_init_34 rfl (lv_at hl 0 rfl) ?_
  refine lv_bipush (v := 60) hx hb dX0_init_35 (by decide) ?_
  refine va_put (D := D) (ci := 0) (v := .int 60) (ty := .int) (C := RX0) (T := TX0) (N := 14) hx hb hts hiX0 tyX0 tyX0_ok nmX0 hown hK hP hD hS 0 rfl rfl 5 (by decide) (hts (.fieldLink RX0 27 "CuckooShop$Clock" "bellows" "I") (by decide +kernel)) (fun _ h9 => h9) rfl (by decide +kernel) rfl rfl (Nat.le_of_ble_eq_true rfl) dX0_init_37 (fun H locs hP hD hS => ?_)
  have hP : va_P D vwCl (cu_wc h0 (upd (upd (upd (upd (upd (upd K 9 30) 10 30) 11 0) 2 600) 3 100) 4 60)) H := hP
  have hD : va_D A (cu_wc h0 (upd (upd (upd (upd (upd (upd K 9 30) 10 30) 11 0) 2 600) 3 100) 4 60)) := hD
  refine lv_aload_n hx hb dX0_init_40 rfl (lv_at hl 0 rfl) ?_
  refine lv_iconst (v := 1) hx hb dX0_init_41 (by decide) ?_
  refine va_put (D := D) (ci := 0) (v := .int 1) (ty := .boolean) (C := RX0) (T := TX0) (N := 14) hx hb hts hiX0 tyX0 tyX0_ok nmX0 hown hK hP hD hS 0 rfl rfl 6 (by decide) (hts (.fieldLink RX0 30 "CuckooShop$Clock" "goes" "Z") (by decide +kernel)) (fun _ h9 => h9) rfl (by decide +kernel) rfl rfl (Nat.le_of_ble_eq_true rfl) dX0_init_42 (fun H locs hP hD hS => ?_)
  have hP : va_P D vwCl (cu_wc h0 (upd (upd (upd (upd (upd (upd (upd K 9 30) 10 30) 11 0) 2 600) 3 100) 4 60) 5 1)) H := hP
  have hD : va_D A (cu_wc h0 (upd (upd (upd (upd (upd (upd (upd K 9 30) 10 30) 11 0) 2 600) 3 100) 4 60) 5 1)) := hD
  refine lv_aload_n hx hb dX0_init_45 rfl (lv_at hl 0 rfl) ?_
  refine lv_iconst (v := 0) hx hb dX0_init_46 (by decide) ?_
  refine va_put (D := D) (ci := 0) (v := .int 0) (ty := .int) (C := RX0) (T := TX0) (N := 14) hx hb hts hiX0 tyX0 tyX0_ok nmX0 hown hK hP hD hS 0 rfl rfl 7 (by decide) (hts (.fieldLink RX0 34 "CuckooShop$Clock" "shown" "I") (by decide +kernel)) (fun _ h9 => h9) rfl (by decide +kernel) rfl rfl (Nat.le_of_ble_eq_true rfl) dX0_init_47 (fun H locs hP hD hS => ?_)
  have hP : va_P D vwCl (cu_wc h0 (upd (upd (upd (upd (upd (upd (upd (upd K 9 30) 10 30) 11 0) 2 600) 3 100) 4 60) 5 1) 0 0)) H := hP
  have hD : va_D A (cu_wc h0 (upd (upd (upd (upd (upd (upd (upd (upd K 9 30) 10 30) 11 0) 2 600) 3 100) 4 60) 5 1) 0 0)) := hD
  refine lv_aload_n hx hb dX0_init_50 rfl (lv_at hl 0 rfl) ?_
  refine lv_iconst (v := 0) hx hb dX0_init_51 (by decide) ?_
  refine va_put (D := D) (ci := 0) (v := .int 0) (ty := .int) (C := RX0) (T := TX0) (N := 14) hx hb hts hiX0 tyX0 tyX0_ok nmX0 hown hK hP hD hS 0 rfl rfl 8 (by decide) (hts (.fieldLink RX0 37 "CuckooShop$Clock" "rest" "I") (by decide +kernel)) (fun _ h9 => h9) rfl (by decide +kernel) rfl rfl (Nat.le_of_ble_eq_true rfl) dX0_init_52 (fun H locs hP hD hS => ?_)
  have hP : va_P D vwCl (cu_wc h0 (upd (upd (upd (upd (upd (upd (upd (upd (upd K 9 30) 10 30) 11 0) 2 600) 3 100) 4 60) 5 1) 0 0) 1 0)) H := hP
  have hD : va_D A (cu_wc h0 (upd (upd (upd (upd (upd (upd (upd (upd (upd K 9 30) 10 30) 11 0) 2 600) 3 100) 4 60) 5 1) 0 0) 1 0)) := hD
  refine lv_aload_n hx hb dX0_init_55 rfl (lv_at hl 0 rfl) ?_
  refine lv_iconst (v := -1) hx hb dX0_init_56 (by decide) ?_
  refine va_put (D := D) (ci := 0) (v := .int (-1)) (ty := .int) (C := RX0) (T := TX0) (N := 14) hx hb hts hiX0 tyX0 tyX0_ok nmX0 hown hK hP hD hS 0 rfl rfl 9 (by decide) (hts (.fieldLink RX0 40 "CuckooShop$Clock" "shutFrom" "I") (by decide +kernel)) (fun _ h9 => h9) rfl (by decide +kernel) rfl rfl (Nat.le_of_ble_eq_true rfl) dX0_init_57 (fun H locs hP hD hS => ?_)
  have hP : va_P D vwCl (cu_wc h0 (upd (upd (upd (upd (upd (upd (upd (upd (upd (upd K 9 30) 10 30) 11 0) 2 600) 3 100) 4 60) 5 1) 0 0) 1 0) 12 (-1))) H := hP
  have hD : va_D A (cu_wc h0 (upd (upd (upd (upd (upd (upd (upd (upd (upd (upd K 9 30) 10 30) 11 0) 2 600) 3 100) 4 60) 5 1) 0 0) 1 0) 12 (-1))) := hD
  refine lv_aload_n hx hb dX0_init_60 rfl (lv_at hl 0 rfl) ?_
  refine lv_iconst (v := 0) hx hb dX0_init_61 (by decide) ?_
  refine va_put (D := D) (ci := 0) (v := .int 0) (ty := .int) (C := RX0) (T := TX0) (N := 14) hx hb hts hiX0 tyX0 tyX0_ok nmX0 hown hK hP hD hS 0 rfl rfl 10 (by decide) (hts (.fieldLink RX0 43 "CuckooShop$Clock" "shutTill" "I") (by decide +kernel)) (fun _ h9 => h9) rfl (by decide +kernel) rfl rfl (Nat.le_of_ble_eq_true rfl) dX0_init_62 (fun H locs hP hD hS => ?_)
  have hP : va_P D vwCl (cu_wc h0 (upd (upd (upd (upd (upd (upd (upd (upd (upd (upd (upd K 9 30) 10 30) 11 0) 2 600) 3 100) 4 60) 5 1) 0 0) 1 0) 12 (-1)) 13 0)) H := hP
  have hD : va_D A (cu_wc h0 (upd (upd (upd (upd (upd (upd (upd (upd (upd (upd (upd K 9 30) 10 30) 11 0) 2 600) 3 100) 4 60) 5 1) 0 0) 1 0) 12 (-1)) 13 0)) := hD
  refine lv_aload_n hx hb dX0_init_65 rfl (lv_at hl 0 rfl) ?_
  refine lv_iconst (v := 0) hx hb dX0_init_66 (by decide) ?_
  refine va_put (D := D) (ci := 0) (v := .int 0) (ty := .int) (C := RX0) (T := TX0) (N := 14) hx hb hts hiX0 tyX0 tyX0_ok nmX0 hown hK hP hD hS 0 rfl rfl 11 (by decide) (hts (.fieldLink RX0 46 "CuckooShop$Clock" "calls" "I") (by decide +kernel)) (fun _ h9 => h9) rfl (by decide +kernel) rfl rfl (Nat.le_of_ble_eq_true rfl) dX0_init_67 (fun H locs hP hD hS => ?_)
  have hP : va_P D vwCl (cu_wc h0 (upd (upd (upd (upd (upd (upd (upd (upd (upd (upd (upd (upd K 9 30) 10 30) 11 0) 2 600) 3 100) 4 60) 5 1) 0 0) 1 0) 12 (-1)) 13 0) 6 0)) H := hP
  have hD : va_D A (cu_wc h0 (upd (upd (upd (upd (upd (upd (upd (upd (upd (upd (upd (upd K 9 30) 10 30) 11 0) 2 600) 3 100) 4 60) 5 1) 0 0) 1 0) 12 (-1)) 13 0) 6 0)) := hD
  refine lv_aload_n hx hb dX0_init_70 rfl (lv_at hl 0 rfl) ?_
  refine lv_iconst (v := 0) hx hb dX0_init_71 (by decide) ?_
  refine va_put (D := D) (ci := 0) (v := .int 0) (ty := .int) (C := RX0) (T := TX0) (N := 14) hx hb hts hiX0 tyX0 tyX0_ok nmX0 hown hK hP hD hS 0 rfl rfl 12 (by decide) (hts (.fieldLink RX0 49 "CuckooShop$Clock" "missed" "I") (by decide +kernel)) (fun _ h9 => h9) rfl (by decide +kernel) rfl rfl (Nat.le_of_ble_eq_true rfl) dX0_init_72 (fun H locs hP hD hS => ?_)
  have hP : va_P D vwCl (cu_wc h0 (upd (upd (upd (upd (upd (upd (upd (upd (upd (upd (upd (upd (upd K 9 30) 10 30) 11 0) 2 600) 3 100) 4 60) 5 1) 0 0) 1 0) 12 (-1)) 13 0) 6 0) 7 0)) H := hP
  have hD : va_D A (cu_wc h0 (upd (upd (upd (upd (upd (upd (upd (upd (upd (upd (upd (upd (upd K 9 30) 10 30) 11 0) 2 600) 3 100) 4 60) 5 1) 0 0) 1 0) 12 (-1)) 13 0) 6 0) 7 0)) := hD
  refine lv_aload_n hx hb dX0_init_75 rfl (lv_at hl 0 rfl) ?_
  refine lv_iconst (v := 0) hx hb dX0_init_76 (by decide) ?_
  refine va_put (D := D) (ci := 0) (v := .int 0) (ty := .int) (C := RX0) (T := TX0) (N := 14) hx hb hts hiX0 tyX0 tyX0_ok nmX0 hown hK hP hD hS 0 rfl rfl 13 (by decide) (hts (.fieldLink RX0 52 "CuckooShop$Clock" "latestCalls" "I") (by decide +kernel)) (fun _ h9 => h9) rfl (by decide +kernel) rfl rfl (Nat.le_of_ble_eq_true rfl) dX0_init_77 (fun H locs hP hD hS => ?_)
  have hP : va_P D vwCl (cu_wc h0 (upd (upd (upd (upd (upd (upd (upd (upd (upd (upd (upd (upd (upd (upd K 9 30) 10 30) 11 0) 2 600) 3 100) 4 60) 5 1) 0 0) 1 0) 12 (-1)) 13 0) 6 0) 7 0) 8 0)) H := hP
  have hD : va_D A (cu_wc h0 (upd (upd (upd (upd (upd (upd (upd (upd (upd (upd (upd (upd (upd (upd K 9 30) 10 30) 11 0) 2 600) 3 100) 4 60) 5 1) 0 0) 1 0) 12 (-1)) 13 0) 6 0) 7 0) 8 0)) := hD
  exact fin _ _ _ _ hP hS dX0_init_80
end
section
set_option maxHeartbeats 4000000 in
set_option maxRecDepth 100000 in
theorem m_X0_copyFrom (l : Launch) (D : va_G) (C : Nat → ClassId) (h0 : Nat) (K : Nat → Int32) (h1 : Nat) (J : Nat → Int32) (hJ : J 5 = 0 ∨ J 5 = 1) : cu_V l D C yX0_copyFrom wsX0_copyFrom { frames := 0, cells := 0, slots := 0, locals := 0 } [.ref h0, .ref h1] [(h0, .inr (0, cu_ck K)), (h1, .inr (0, cu_ck J))] [(h0, .inr (0, cu_ck J)), (h1, .inr (0, cu_ck J))] 0 0 := by
  refine cu_openV (cc := cX0_copyFrom) (maxL := 2) (own := RX0) (by decide) rfl rfl (Nat.le_of_ble_eq_true rfl) ?_
  intro p e s m args below meth c A Z H0 ls e0 hx hb hml hts hown hnm hG hP hD hS hA hl fin
  have hK := hG.1
  have hl : lv_has ls 2 [(0, .ref h0), (1, .ref h1)] := hl
  have hiX0 : ∀ w ∈ wsX00, w ∈ wsX0_copyFrom := by decide +kernel
  refine lv_aload_n hx hb dX0_copyFrom_0 rfl (lv_at hl 0 rfl) ?_
  refine lv_aload_n hx hb dX0_copyFrom_1 rfl (lv_at hl 1 rfl) ?_
  refine va_get (D := D) (ci := 0) (v := .int (J 9)) (C := RX0) (T := TX0) (N := 14) hx hb hts hiX0 hown hK hP 1 rfl rfl 0 (by decide) (hts (.fieldLink RX0 9 "CuckooShop$Clock" "gearA" "I") (by decide +kernel)) (fun _ h9 => h9) rfl dX0_copyFrom_2 ?_
  refine va_put (D := D) (ci := 0) (v := .int (J 9)) (ty := .int) (C := RX0) (T := TX0) (N := 14) hx hb hts hiX0 tyX0 tyX0_ok nmX0 hown hK hP hD hS 0 rfl rfl 0 (by decide) (hts (.fieldLink RX0 9 "CuckooShop$Clock" "gearA" "I") (by decide +kernel)) (fun _ h9 => h9) rfl (by decide +kernel) rfl rfl (Nat.le_of_ble_eq_true rfl) dX0_copyFrom_5 (fun H locs hP hD hS => ?_)
  have hP : va_P D vwCl [(h0, .inr (0, cu_ck (upd K 9 (J 9)))), (h1, .inr (0, cu_ck J))] H := hP
  have hD : va_D A [(h0, .inr (0, cu_ck (upd K 9 (J 9)))), (h1, .inr (0, cu_ck J))] := hD
  refine lv_aload_n hx hb dX0_copyFrom_8 rfl (lv_at hl 0 rfl) ?_
  refine lv_aload_n hx hb dX0_copyFrom_9 rfl (lv_at hl 1 rfl) ?_
  refine va_get (D := D) (ci := 0) (v := .int (J 10)) (C := RX0) (T := TX0) (N := 14) hx hb hts hiX0 hown hK hP 1 rfl rfl 1 (by decide) (hts (.fieldLink RX0 15 "CuckooShop$Clock" "gearB" "I") (by decide +kernel)) (fun _ h9 => h9) rfl dX0_copyFrom_10 ?_
  refine va_put (D := D) (ci := 0) (v := .int (J 10)) (ty := .int) (C := RX0) (T := TX0) (N := 14) hx hb hts hiX0 tyX0 tyX0_ok nmX0 hown hK hP hD hS 0 rfl rfl 1 (by decide) (hts (.fieldLink RX0 15 "CuckooShop$Clock" "gearB" "I") (by decide +kernel)) (fun _ h9 => h9) rfl (by decide +kernel) rfl rfl (Nat.le_of_ble_eq_true rfl) dX0_copyFrom_13 (fun H locs hP hD hS => ?_)
  have hP : va_P D vwCl [(h0, .inr (0, cu_ck (upd (upd K 9 (J 9)) 10 (J 10)))), (h1, .inr (0, cu_ck J))] H := hP
  have hD : va_D A [(h0, .inr (0, cu_ck (upd (upd K 9 (J 9)) 10 (J 10)))), (h1, .inr (0, cu_ck J))] := hD
  refine lv_aload_n hx hb dX0_copyFrom_16 rfl (lv_at hl 0 rfl) ?_
  refine lv_aload_n hx hb dX0_copyFrom_17 rfl (lv_at hl 1 rfl) ?_
  refine va_get (D := D) (ci := 0) (v := .int (J 11)) (C := RX0) (T := TX0) (N := 14) hx hb hts hiX0 hown hK hP 1 rfl rfl 2 (by decide) (hts (.fieldLink RX0 18 "CuckooShop$Clock" "swing" "I") (by decide +kernel)) (fun _ h9 => h9) rfl dX0_copyFrom_18 ?_
  refine va_put (D := D) (ci := 0) (v := .int (J 11)) (ty := .int) (C := RX0) (T := TX0) (N := 14) hx hb hts hiX0 tyX0 tyX0_ok nmX0 hown hK hP hD hS 0 rfl rfl 2 (by decide) (hts (.fieldLink RX0 18 "CuckooShop$Clock" "swing" "I") (by decide +kernel)) (fun _ h9 => h9) rfl (by decide +kernel) rfl rfl (Nat.le_of_ble_eq_true rfl) dX0_copyFrom_21 (fun H locs hP hD hS => ?_)
  have hP : va_P D vwCl [(h0, .inr (0, cu_ck (upd (upd (upd K 9 (J 9)) 10 (J 10)) 11 (J 11)))), (h1, .inr (0, cu_ck J))] H := hP
  have hD : va_D A [(h0, .inr (0, cu_ck (upd (upd (upd K 9 (J 9)) 10 (J 10)) 11 (J 11)))), (h1, .inr (0, cu_ck J))] := hD
  refine lv_aload_n hx hb dX0_copyFrom_24 rfl (lv_at hl 0 rfl) ?_
  refine lv_aload_n hx hb dX0_copyFrom_25 rfl (lv_at hl 1 rfl) ?_
  refine va_get (D := D) (ci := 0) (v := .int (J 2)) (C := RX0) (T := TX0) (N := 14) hx hb hts hiX0 hown hK hP 1 rfl rfl 3 (by decide) (hts (.fieldLink RX0 21 "CuckooShop$Clock" "chain" "I") (by decide +kernel)) (fun _ h9 => h9) rfl dX0_copyFrom_26 ?_
  refine va_put (D := D) (ci := 0) (v := .int (J 2)) (ty := .int) (C := RX0) (T := TX0) (N := 14) hx hb hts hiX0 tyX0 tyX0_ok nmX0 hown hK hP hD hS 0 rfl rfl 3 (by decide) (hts (.fieldLink RX0 21 "CuckooShop$Clock" "chain" "I") (by decide +kernel)) (fun _ h9 => h9) rfl (by decide +kernel) rfl rfl (Nat.le_of_ble_eq_true rfl) dX0_copyFrom_29 (fun H locs hP hD hS => ?_)
  have hP : va_P D vwCl [(h0, .inr (0, cu_ck (upd (upd (upd (upd K 9 (J 9)) 10 (J 10)) 11 (J 11)) 2 (J 2)))), (h1, .inr (0, cu_ck J))] H := hP
  have hD : va_D A [(h0, .inr (0, cu_ck (upd (upd (upd (upd K 9 (J 9)) 10 (J 10)) 11 (J 11)) 2 (J 2)))), (h1, .inr (0, cu_ck J))] := hD
  refine lv_aload_n hx hb dX0_copyFrom_32 rfl (lv_at hl 0 rfl) ?_
  refine lv_aload_n hx hb dX0_copyFrom_33 rfl (lv_at hl 1 rfl) ?_
  refine va_get (D := D) (ci := 0) (v := .int (J 3)) (C := RX0) (T := TX0) (N := 14) hx hb hts hiX0 hown hK hP 1 rfl rfl 4 (by decide) (hts (.fieldLink RX0 24 "CuckooShop$Clock" "oil" "I") (by decide +kernel)) (fun _ h9 => h9) rfl dX0_copyFrom_34 ?_
  refine va_put (D := D) (ci := 0) (v := .int (J 3)) (ty := .int) (C := RX0) (T := TX0) (N := 14) hx hb hts hiX0 tyX0 tyX0_ok nmX0 hown hK hP hD hS 0 rfl rfl 4 (by decide) (hts (.fieldLink RX0 24 "CuckooShop$Clock" "oil" "I") (by decide +kernel)) (fun _ h9 => h9) rfl (by decide +kernel) rfl rfl (Nat.le_of_ble_eq_true rfl) dX0_copyFrom_37 (fun H locs hP hD hS => ?_)
  have hP : va_P D vwCl [(h0, .inr (0, cu_ck (upd (upd (upd (upd (upd K 9 (J 9)) 10 (J 10)) 11 (J 11)) 2 (J 2)) 3 (J 3)))), (h1, .inr (0, cu_ck J))] H := hP
  have hD : va_D A [(h0, .inr (0, cu_ck (upd (upd (upd (upd (upd K 9 (J 9)) 10 (J 10)) 11 (J 11)) 2 (J 2)) 3 (J 3)))), (h1, .inr (0, cu_ck J))] := hD
  refine lv_aload_n hx hb dX0_copyFrom_40 rfl (lv_at hl 0 rfl) ?_
  refine lv_aload_n hx hb dX0_copyFrom_41 rfl (lv_at hl 1 rfl) ?_
  refine va_get (D := D) (ci := 0) (v := .int (J 4)) (C := RX0) (T := TX0) (N := 14) hx hb hts hiX0 hown hK hP 1 rfl rfl 5 (by decide) (hts (.fieldLink RX0 27 "CuckooShop$Clock" "bellows" "I") (by decide +kernel)) (fun _ h9 => h9) rfl dX0_copyFrom_42 ?_
  refine va_put (D := D) (ci := 0) (v := .int (J 4)) (ty := .int) (C := RX0) (T := TX0) (N := 14) hx hb hts hiX0 tyX0 tyX0_ok nmX0 hown hK hP hD hS 0 rfl rfl 5 (by decide) (hts (.fieldLink RX0 27 "CuckooShop$Clock" "bellows" "I") (by decide +kernel)) (fun _ h9 => h9) rfl (by decide +kernel) rfl rfl (Nat.le_of_ble_eq_true rfl) dX0_copyFrom_45 (fun H locs hP hD hS => ?_)
  have hP : va_P D vwCl [(h0, .inr (0, cu_ck (upd (upd (upd (upd (upd (upd K 9 (J 9)) 10 (J 10)) 11 (J 11)) 2 (J 2)) 3 (J 3)) 4 (J 4)))), (h1, .inr (0, cu_ck J))] H := hP
  have hD : va_D A [(h0, .inr (0, cu_ck (upd (upd (upd (upd (upd (upd K 9 (J 9)) 10 (J 10)) 11 (J 11)) 2 (J 2)) 3 (J 3)) 4 (J 4)))), (h1, .inr (0, cu_ck J))] := hD
  refine lv_aload_n hx hb dX0_copyFrom_48 rfl (lv_at hl 0 rfl) ?_
  refine lv_aload_n hx hb dX0_copyFrom_49 rfl (lv_at hl 1 rfl) ?_
  refine va_get (D := D) (ci := 0) (v := .int (J 5)) (C := RX0) (T := TX0) (N := 14) hx hb hts hiX0 hown hK hP 1 rfl rfl 6 (by decide) (hts (.fieldLink RX0 30 "CuckooShop$Clock" "goes" "Z") (by decide +kernel)) (fun _ h9 => h9) rfl dX0_copyFrom_50 ?_
  refine va_put (D := D) (ci := 0) (v := .int (J 5)) (ty := .boolean) (C := RX0) (T := TX0) (N := 14) hx hb hts hiX0 tyX0 tyX0_ok nmX0 hown hK hP hD hS 0 rfl rfl 6 (by decide) (hts (.fieldLink RX0 30 "CuckooShop$Clock" "goes" "Z") (by decide +kernel)) (fun _ h9 => h9) rfl (by decide +kernel) (cu_nb hJ) (cu_fb hJ) (Nat.le_of_ble_eq_true rfl) dX0_copyFrom_53 (fun H locs hP hD hS => ?_)
  have hP : va_P D vwCl [(h0, .inr (0, cu_ck (upd (upd (upd (upd (upd (upd (upd K 9 (J 9)) 10 (J 10)) 11 (J 11)) 2 (J 2)) 3 (J 3)) 4 (J 4)) 5 (J 5)))), (h1, .inr (0, cu_ck J))] H := hP
  have hD : va_D A [(h0, .inr (0, cu_ck (upd (upd (upd (upd (upd (upd (upd K 9 (J 9)) 10 (J 10)) 11 (J 11)) 2 (J 2)) 3 (J 3)) 4 (J 4)) 5 (J 5)))), (h1, .inr (0, cu_ck J))] := hD
  refine lv_aload_n hx hb dX0_copyFrom_56 rfl (lv_at hl 0 rfl) ?_
  refine lv_aload_n hx hb dX0_copyFrom_57 rfl (lv_at hl 1 rfl) ?_
  refine va_get (D := D) (ci := 0) (v := .int (J 0)) (C := RX0) (T := TX0) (N := 14) hx hb hts hiX0 hown hK hP 1 rfl rfl 7 (by decide) (hts (.fieldLink RX0 34 "CuckooShop$Clock" "shown" "I") (by decide +kernel)) (fun _ h9 => h9) rfl dX0_copyFrom_58 ?_
  refine va_put (D := D) (ci := 0) (v := .int (J 0)) (ty := .int) (C := RX0) (T := TX0) (N := 14) hx hb hts hiX0 tyX0 tyX0_ok nmX0 hown hK hP hD hS 0 rfl rfl 7 (by decide) (hts (.fieldLink RX0 34 "CuckooShop$Clock" "shown" "I") (by decide +kernel)) (fun _ h9 => h9) rfl (by decide +kernel) rfl rfl (Nat.le_of_ble_eq_true rfl) dX0_copyFrom_61 (fun H locs hP hD hS => ?_)
  have hP : va_P D vwCl [(h0, .inr (0, cu_ck (upd (upd (upd (upd (upd (upd (upd (upd K 9 (J 9)) 10 (J 10)) 11 (J 11)) 2 (J 2)) 3 (J 3)) 4 (J 4)) 5 (J 5)) 0 (J 0)))), (h1, .inr (0, cu_ck J))] H := hP
  have hD : va_D A [(h0, .inr (0, cu_ck (upd (upd (upd (upd (upd (upd (upd (upd K 9 (J 9)) 10 (J 10)) 11 (J 11)) 2 (J 2)) 3 (J 3)) 4 (J 4)) 5 (J 5)) 0 (J 0)))), (h1, .inr (0, cu_ck J))] := hD
  refine lv_aload_n hx hb dX0_copyFrom_64 rfl (lv_at hl 0 rfl) ?_
  refine lv_aload_n hx hb dX0_copyFrom_65 rfl (lv_at hl 1 rfl) ?_
  refine va_get (D := D) (ci := 0) (v := .int (J 1)) (C := RX0) (T := TX0) (N := 14) hx hb hts hiX0 hown hK hP 1 rfl rfl 8 (by decide) (hts (.fieldLink RX0 37 "CuckooShop$Clock" "rest" "I") (by decide +kernel)) (fun _ h9 => h9) rfl dX0_copyFrom_66 ?_
  refine va_put (D := D) (ci := 0) (v := .int (J 1)) (ty := .int) (C := RX0) (T := TX0) (N := 14) hx hb hts hiX0 tyX0 tyX0_ok nmX0 hown hK hP hD hS 0 rfl rfl 8 (by decide) (hts (.fieldLink RX0 37 "CuckooShop$Clock" "rest" "I") (by decide +kernel)) (fun _ h9 => h9) rfl (by decide +kernel) rfl rfl (Nat.le_of_ble_eq_true rfl) dX0_copyFrom_69 (fun H locs hP hD hS => ?_)
  have hP : va_P D vwCl [(h0, .inr (0, cu_ck (upd (upd (upd (upd (upd (upd (upd (upd (upd K 9 (J 9)) 10 (J 10)) 11 (J 11)) 2 (J 2)) 3 (J 3)) 4 (J 4)) 5 (J 5)) 0 (J 0)) 1 (J 1)))), (h1, .inr (0, cu_ck J))] H := hP
  have hD : va_D A [(h0, .inr (0, cu_ck (upd (upd (upd (upd (upd (upd (upd (upd (upd K 9 (J 9)) 10 (J 10)) 11 (J 11)) 2 (J 2)) 3 (J 3)) 4 (J 4)) 5 (J 5)) 0 (J 0)) 1 (J 1)))), (h1, .inr (0, cu_ck J))] := hD
  refine lv_aload_n hx hb dX0_copyFrom_72 rfl (lv_at hl 0 rfl) ?_
  refine lv_aload_n hx hb dX0_copyFrom_73 rfl (lv_at hl 1 rfl) ?_
  refine va_get (D := D) (ci := 0) (v := .int (J 12)) (C := RX0) (T := TX0) (N := 14) hx hb hts hiX0 hown hK hP 1 rfl rfl 9 (by decide) (hts (.fieldLink RX0 40 "CuckooShop$Clock" "shutFrom" "I") (by decide +kernel)) (fun _ h9 => h9) rfl dX0_copyFrom_74 ?_
  refine va_put (D := D) (ci := 0) (v := .int (J 12)) (ty := .int) (C := RX0) (T := TX0) (N := 14) hx hb hts hiX0 tyX0 tyX0_ok nmX0 hown hK hP hD hS 0 rfl rfl 9 (by decide) (hts (.fieldLink RX0 40 "CuckooShop$Clock" "shutFrom" "I") (by decide +kernel)) (fun _ h9 => h9) rfl (by decide +kernel) rfl rfl (Nat.le_of_ble_eq_true rfl) dX0_copyFrom_77 (fun H locs hP hD hS => ?_)
  have hP : va_P D vwCl [(h0, .inr (0, cu_ck (upd (upd (upd (upd (upd (upd (upd (upd (upd (upd K 9 (J 9)) 10 (J 10)) 11 (J 11)) 2 (J 2)) 3 (J 3)) 4 (J 4)) 5 (J 5)) 0 (J 0)) 1 (J 1)) 12 (J 12)))), (h1, .inr (0, cu_ck J))] H := hP
  have hD : va_D A [(h0, .inr (0, cu_ck (upd (upd (upd (upd (upd (upd (upd (upd (upd (upd K 9 (J 9)) 10 (J 10)) 11 (J 11)) 2 (J 2)) 3 (J 3)) 4 (J 4)) 5 (J 5)) 0 (J 0)) 1 (J 1)) 12 (J 12)))), (h1, .inr (0, cu_ck J))] := hD
  refine lv_aload_n hx hb dX0_copyFrom_80 rfl (lv_at hl 0 rfl) ?_
  refine lv_aload_n hx hb dX0_copyFrom_81 rfl (lv_at hl 1 rfl) ?_
  refine va_get (D := D) (ci := 0) (v := .int (J 13)) (C := RX0) (T := TX0) (N := 14) hx hb hts hiX0 hown hK hP 1 rfl rfl 10 (by decide) (hts (.fieldLink RX0 43 "CuckooShop$Clock" "shutTill" "I") (by decide +kernel)) (fun _ h9 => h9) rfl dX0_copyFrom_82 ?_
  refine va_put (D := D) (ci := 0) (v := .int (J 13)) (ty := .int) (C := RX0) (T := TX0) (N := 14) hx hb hts hiX0 tyX0 tyX0_ok nmX0 hown hK hP hD hS 0 rfl rfl 10 (by decide) (hts (.fieldLink RX0 43 "CuckooShop$Clock" "shutTill" "I") (by decide +kernel)) (fun _ h9 => h9) rfl (by decide +kernel) rfl rfl (Nat.le_of_ble_eq_true rfl) dX0_copyFrom_85 (fun H locs hP hD hS => ?_)
  have hP : va_P D vwCl [(h0, .inr (0, cu_ck (upd (upd (upd (upd (upd (upd (upd (upd (upd (upd (upd K 9 (J 9)) 10 (J 10)) 11 (J 11)) 2 (J 2)) 3 (J 3)) 4 (J 4)) 5 (J 5)) 0 (J 0)) 1 (J 1)) 12 (J 12)) 13 (J 13)))), (h1, .inr (0, cu_ck J))] H := hP
  have hD : va_D A [(h0, .inr (0, cu_ck (upd (upd (upd (upd (upd (upd (upd (upd (upd (upd (upd K 9 (J 9)) 10 (J 10)) 11 (J 11)) 2 (J 2)) 3 (J 3)) 4 (J 4)) 5 (J 5)) 0 (J 0)) 1 (J 1)) 12 (J 12)) 13 (J 13)))), (h1, .inr (0, cu_ck J))] := hD
  refine lv_aload_n hx hb dX0_copyFrom_88 rfl (lv_at hl 0 rfl) ?_
  refine lv_aload_n hx hb dX0_copyFrom_89 rfl (lv_at hl 1 rfl) ?_
  refine va_get (D := D) (ci := 0) (v := .int (J 6)) (C := RX0) (T := TX0) (N := 14) hx hb hts hiX0 hown hK hP 1 rfl rfl 11 (by decide) (hts (.fieldLink RX0 46 "CuckooShop$Clock" "calls" "I") (by decide +kernel)) (fun _ h9 => h9) rfl dX0_copyFrom_90 ?_
  refine va_put (D := D) (ci := 0) (v := .int (J 6)) (ty := .int) (C := RX0) (T := TX0) (N := 14) hx hb hts hiX0 tyX0 tyX0_ok nmX0 hown hK hP hD hS 0 rfl rfl 11 (by decide) (hts (.fieldLink RX0 46 "CuckooShop$Clock" "calls" "I") (by decide +kernel)) (fun _ h9 => h9) rfl (by decide +kernel) rfl rfl (Nat.le_of_ble_eq_true rfl) dX0_copyFrom_93 (fun H locs hP hD hS => ?_)
  have hP : va_P D vwCl [(h0, .inr (0, cu_ck (upd (upd (upd (upd (upd (upd (upd (upd (upd (upd (upd (upd K 9 (J 9)) 10 (J 10)) 11 (J 11)) 2 (J 2)) 3 (J 3)) 4 (J 4)) 5 (J 5)) 0 (J 0)) 1 (J 1)) 12 (J 12)) 13 (J 13)) 6 (J 6)))), (h1, .inr (0, cu_ck J))] H := hP
  have hD : va_D A [(h0, .inr (0, cu_ck (upd (upd (upd (upd (upd (upd (upd (upd (upd (upd (upd (upd K 9 (J 9)) 10 (J 10)) 11 (J 11)) 2 (J 2)) 3 (J 3)) 4 (J 4)) 5 (J 5)) 0 (J 0)) 1 (J 1)) 12 (J 12)) 13 (J 13)) 6 (J 6)))), (h1, .inr (0, cu_ck J))] := hD
  refine lv_aload_n hx hb dX0_copyFrom_96 rfl (lv_at hl 0 rfl) ?_
  refine lv_aload_n hx hb dX0_copyFrom_97 rfl (lv_at hl 1 rfl) ?_
  refine va_get (D := D) (ci := 0) (v := .int (J 7)) (C := RX0) (T := TX0) (N := 14) hx hb hts hiX0 hown hK hP 1 rfl rfl 12 (by decide) (hts (.fieldLink RX0 49 "CuckooShop$Clock" "missed" "I") (by decide +kernel)) (fun _ h9 => h9) rfl dX0_copyFrom_98 ?_
  refine va_put (D := D) (ci := 0) (v := .int (J 7)) (ty := .int) (C := RX0) (T := TX0) (N := 14) hx hb hts hiX0 tyX0 tyX0_ok nmX0 hown hK hP hD hS 0 rfl rfl 12 (by decide) (hts (.fieldLink RX0 49 "CuckooShop$Clock" "missed" "I") (by decide +kernel)) (fun _ h9 => h9) rfl (by decide +kernel) rfl rfl (Nat.le_of_ble_eq_true rfl) dX0_copyFrom_101 (fun H locs hP hD hS => ?_)
  have hP : va_P D vwCl [(h0, .inr (0, cu_ck (upd (upd (upd (upd (upd (upd (upd (upd (upd (upd (upd (upd (upd K 9 (J 9)) 10 (J 10)) 11 (J 11)) 2 (J 2)) 3 (J 3)) 4 (J 4)) 5 (J 5)) 0 (J 0)) 1 (J 1)) 12 (J 12)) 13 (J 13)) 6 (J 6)) 7 (J 7)))), (h1, .inr (0, cu_ck J))] H := hP
  have hD : va_D A [(h0, .inr (0, cu_ck (upd (upd (upd (upd (upd (upd (upd (upd (upd (upd (upd (upd (upd K 9 (J 9)) 10 (J 10)) 11 (J 11)) 2 (J 2)) 3 (J 3)) 4 (J 4)) 5 (J 5)) 0 (J 0)) 1 (J 1)) 12 (J 12)) 13 (J 13)) 6 (J 6)) 7 (J 7)))), (h1, .inr (0, cu_ck J))] := hD
  refine lv_aload_n hx hb dX0_copyFrom_104 rfl (lv_at hl 0 rfl) ?_
  refine lv_aload_n hx hb dX0_copyFrom_105 rfl (lv_at hl 1 rfl) ?_
  refine va_get (D := D) (ci := 0) (v := .int (J 8)) (C := RX0) (T := TX0) (N := 14) hx hb hts hiX0 hown hK hP 1 rfl rfl 13 (by decide) (hts (.fieldLink RX0 52 "CuckooShop$Clock" "latestCalls" "I") (by decide +kernel)) (fun _ h9 => h9) rfl dX0_copyFrom_106 ?_
  refine va_put (D := D) (ci := 0) (v := .int (J 8)) (ty := .int) (C := RX0) (T := TX0) (N := 14) hx hb hts hiX0 tyX0 tyX0_ok nmX0 hown hK hP hD hS 0 rfl rfl 13 (by decide) (hts (.fieldLink RX0 52 "CuckooShop$Clock" "latestCalls" "I") (by decide +kernel)) (fun _ h9 => h9) rfl (by decide +kernel) rfl rfl (Nat.le_of_ble_eq_true rfl) dX0_copyFrom_109 (fun H locs hP hD hS => ?_)
  have hP : va_P D vwCl [(h0, .inr (0, cu_ck (upd (upd (upd (upd (upd (upd (upd (upd (upd (upd (upd (upd (upd (upd K 9 (J 9)) 10 (J 10)) 11 (J 11)) 2 (J 2)) 3 (J 3)) 4 (J 4)) 5 (J 5)) 0 (J 0)) 1 (J 1)) 12 (J 12)) 13 (J 13)) 6 (J 6)) 7 (J 7)) 8 (J 8)))), (h1, .inr (0, cu_ck J))] H := hP
  have hD : va_D A [(h0, .inr (0, cu_ck (upd (upd (upd (upd (upd (upd (upd (upd (upd (upd (upd (upd (upd (upd K 9 (J 9)) 10 (J 10)) 11 (J 11)) 2 (J 2)) 3 (J 3)) 4 (J 4)) 5 (J 5)) 0 (J 0)) 1 (J 1)) 12 (J 12)) 13 (J 13)) 6 (J 6)) 7 (J 7)) 8 (J 8)))), (h1, .inr (0, cu_ck J))] := hD
  exact fin _ _ _ _ hP hS dX0_copyFrom_112
end
section
/-! methods that return or throw: o names the exception, if there is one; then nothing is changed -/
def cu_nms : List String := ["java/lang/RuntimeException", "java/lang/Exception"]
abbrev x_IAE : String := "java/lang/IllegalArgumentException"
abbrev x_ISE : String := "java/lang/IllegalStateException"
abbrev x_IOB : String := "java/lang/IndexOutOfBoundsException"
theorem cu_at_IAE : ∀ w ∈ (vx_atS RX1 51 x_IAE cu_nms).filter (fun w => !goodWord w), w ∈ Cond.castable x_IAE x_IAE :: cu_decls.map Cond.declares := by decide +kernel
theorem cu_at_ISE : ∀ w ∈ (vx_atS RX1 34 x_ISE cu_nms).filter (fun w => !goodWord w), w ∈ Cond.castable x_ISE x_ISE :: cu_decls.map Cond.declares := by decide +kernel
theorem cu_at_IOB : ∀ w ∈ (vx_atS RX1 90 x_IOB cu_nms).filter (fun w => !goodWord w), w ∈ Cond.castable x_IOB x_IOB :: cu_decls.map Cond.declares := by decide +kernel
theorem cu_gd_IAE : ∀ w ∈ Cond.classLink RX1 47 x_IAE :: Cond.initialized x_IAE :: vx_atS RX1 51 x_IAE cu_nms, vx_ot w = true := by decide +kernel
theorem cu_gd_ISE : ∀ w ∈ Cond.classLink RX1 30 x_ISE :: Cond.initialized x_ISE :: vx_atS RX1 34 x_ISE cu_nms, vx_ot w = true := by decide +kernel
theorem cu_gd_IOB : ∀ w ∈ Cond.classLink RX1 86 x_IOB :: Cond.initialized x_IOB :: vx_atS RX1 90 x_IOB cu_nms, vx_ot w = true := by decide +kernel
/-- the three kinds of throw: the class, the place of its name, of its constructor -/
def cu_th (cls : String) (ik ic : Nat) : Prop := Bundle.fit cls = true ∧ (∀ w ∈ (vx_atS RX1 ic cls cu_nms).filter (fun w => !goodWord w), w ∈ Cond.castable cls cls :: cu_decls.map Cond.declares) ∧ (∀ w ∈ Cond.classLink RX1 ik cls :: Cond.initialized cls :: vx_atS RX1 ic cls cu_nms, vx_ot w = true) ∧ (cls, cls) ∈ cu_casts
theorem cu_th_IAE : cu_th x_IAE 47 51 := ⟨by decide +kernel, cu_at_IAE, cu_gd_IAE, by decide +kernel⟩
theorem cu_th_ISE : cu_th x_ISE 30 34 := ⟨by decide +kernel, cu_at_ISE, cu_gd_ISE, by decide +kernel⟩
theorem cu_th_IOB : cu_th x_IOB 86 90 := ⟨by decide +kernel, cu_at_IOB, cu_gd_IOB, by decide +kernel⟩
def cu_T (A : Nat → Prop) (U : State) (H : Heap) : Prop := vx_Zq Bundle.tN "UNASSIGNED_STACK" Bundle.steD A U H ∧ vx_Zq Bundle.tN "SUPPRESSED_SENTINEL" Bundle.listD A U H
def cu_BT (D : va_G) (C : Nat → ClassId) (w : va_W) (sz : Nat) (U : State) : Prop := cu_B D C w sz U ∧ cu_T (va_A w sz) U U.heap
theorem cu_blindT {D : va_G} {C : Nat → ClassId} {w : va_W} {sz : Nat} {av : List Value} : FrameBlind (va_Pc av (cu_BT D C w sz)) := by
  intro a U g mk q
  obtain ⟨q0, q1, q2, q3⟩ := q
  have ha : U.vm.Alike (U.calling g mk a).vm := Vm.Alike.refl U.vm
  exact ⟨q0, (cu_blind (av := av) a U g mk ⟨q0, q1⟩).2, vx_Zq.moved ha q2, vx_Zq.moved ha q3⟩
def cu_XI (l : Launch) (D : va_G) (C : Nat → ClassId) (y : MethodName) (ws : List Cond) (rm : Room) (av : List Value) (w w' : va_W) (o : Option String) (val : Int32) (mc ms : Nat) : Prop :=
  ∀ sz : Nat, vx_Met l y ws rm (va_Pc av (cu_BT D C w sz)) (va_Qi (fun (r : Int32) (_ : Unit) => o = none ∧ r = val) (fun _ t => va_P D vwCl w' t.heap) (va_A w sz)) (vx_X (fun _ : Unit => True) (fun E _ t => o = some E ∧ va_P D vwCl w t.heap) (va_A w sz)) mc ms (va_A w sz)
def cu_XV (l : Launch) (D : va_G) (C : Nat → ClassId) (y : MethodName) (ws : List Cond) (rm : Room) (av : List Value) (w w' : va_W) (o : Option String) (mc ms : Nat) : Prop :=
  ∀ sz : Nat, vx_Met l y ws rm (va_Pc av (cu_BT D C w sz)) (va_Qv (fun (_ : Unit) => o = none) (fun _ t => va_P D vwCl w' t.heap) (va_A w sz)) (vx_X (fun _ : Unit => True) (fun E _ t => o = some E ∧ va_P D vwCl w t.heap) (va_A w sz)) mc ms (va_A w sz)
section CUX
variable {l : Launch} {D : va_G} {C : Nat → ClassId} {y : MethodName} {ws ws' : List Cond} {rm : Room} {av : List Value} {w w' : va_W} {mc ms maxL : Nat} {cc : ByteArray} {o : Option String}
/-- a throw, and an exception of a callee's that goes on -/
def cu_Thr (D : va_G) (p : Program) (l : Launch) (e : Env) (rm : Room) (s : State) (m : MethodId) (args : Array Value) (below : List Frame) (meth : Method) (c : Code) (cc : ByteArray) (ws : List Cond) (maxL mc ms : Nat) (o : Option String) (w : va_W) (A : Nat → Prop) (Z : State → Prop) (H0 : Heap) : Prop :=
  ∀ (cls text : String) (ik is ic : Nat) (H : Heap) (locs : List Loc) (pc : Nat) (ls : Array Slot) (rest : List Value) (cells slots : Nat), cu_th cls ik ic → (Cond.classLink RX1 ik cls).before args s = true → (Cond.initialized cls).before args s = true → (is, text) ∈ cu_txts → (∀ w ∈ (vx_atS RX1 ic cls cu_nms).filter goodWord, w ∈ ws) →
    va_S A H0 H locs → ls.size = maxL → decode cc pc = .ok (.new ik, 3) → decode cc (pc + 3) = .ok (.dup, 1) → decode cc (pc + 4) = .ok (.ldc is, 2) → decode cc (pc + 6) = .ok (.invokespecial ic, 3) → decode cc (pc + 9) = .ok (.athrow, 1) →
    5 < rm.frames → (rest.map fun v => v.category).sum + 82 ≤ rm.locals → cells + 1 ≤ rm.cells → slots + 6 ≤ rm.slots → cells + 1 ≤ mc → slots + 6 ≤ ms → o = some cls → va_P D vwCl w H →
    W p l e rm s m args below meth c H locs cells slots Z (F0 m pc ls rest)
def cu_Prop (D : va_G) (p : Program) (l : Launch) (e : Env) (rm : Room) (s : State) (m : MethodId) (args : Array Value) (below : List Frame) (meth : Method) (c : Code) (mc ms : Nat) (o : Option String) (w : va_W) (A : Nat → Prop) (Z : State → Prop) (H0 : Heap) : Prop :=
  ∀ (E : String) (ce : Cell) (q : Addr) (H : Heap) (locs : List Loc) (pc : Nat) (ls : Array Slot) (rest : List Value) (cells slots : Nat), o = some E → va_P D vwCl w H → va_S A H0 H locs → H[q]? = some ce → ce.vm = .none → s.vm.findClass E = some ce.cls → cells ≤ mc → slots ≤ ms →
    vx_W p l e rm s m args below meth c H locs cells slots Z (F0 m pc ls rest) q
theorem cu_thr {p : Program} {e : Env} {s s₁ : State} {m : MethodId} {args : Array Value} {below : List Frame} {meth : Method} {c : Code} {ret : Option FieldType} {Qc : Array Value → State → Outcome → State → Prop} (hlf : l.stackTraces = false) (ho : y.cls = RX1) (B : BodyLoose p l y (headSpec ws rm) cc maxL ret e s m args below meth c s₁) (hml : c.maxLocals = maxL) (ht : ∀ x ∈ c.exceptionTable.toList, False) (hG : cu_G D C s) (hT : cu_T (va_A w s.heap.size) s s.heap) :
    cu_Thr D p l e rm s m args below meth c cc ws maxL mc ms o w (va_A w s.heap.size) (vx_MQ below Qc (vx_X (fun _ : Unit => True) (fun E _ t => o = some E ∧ va_P D vwCl w t.heap) (va_A w s.heap.size)) args s mc ms (va_A w s.heap.size)) s.heap := by
  intro cls text ik is ic H locs pc ls rest cells slots hth hk hini htx hws hS hls d0 d3 d4 d6 d9 hf hlo hc hs hc2 hs2 hoo hP
  obtain ⟨h1, h2, h3, h4⟩ := hth
  obtain ⟨sa, hsa⟩ := hG.2.2.2.2.2.1 _ htx
  have hts := atoms_spec (ws := ws) B.pre
  refine vx_throwS (names := cu_nms) (text := text) (sa := sa) B.exec B.bytes hlf (by rw [← ho]; exact findClass_of_methodNamed B.named) h1 (by decide +kernel) hk hini hsa (vx_hat (fun w hw => hts w (hws w hw)) h2 (vx_c (va_Nw.use rfl (hG.2.2.2.1 _ h4)) (fun w hw => by obtain ⟨z, hz, rfl⟩ := List.mem_map.mp hw; exact va_Nw.use rfl (hG.2.2.2.2.2.2.1 z hz)))) h3 hT.1 hT.2 hS (hls.trans hml.symm) d0 d3 d4 d6 d9 (fun x hx => (ht x hx).elim) hf hlo hc hs B.notSynchronized (fun t _ hz hq => ?_) hS.2.2 hc2 hs2
  refine ⟨(), trivial, ⟨hoo, hP.kept (fun k q hk => hq q.1 (hP k q hk).lt)⟩, Nat.le_trans hS.1 hz, fun q h8 h9 => ?_⟩
  rw [hq q (Nat.lt_of_lt_of_le h8 hS.1)]
  exact hS.2.1 q h8 h9
theorem cu_prop {p : Program} {e : Env} {s s₁ : State} {m : MethodId} {args : Array Value} {below : List Frame} {meth : Method} {c : Code} {ret : Option FieldType} {Qc : Array Value → State → Outcome → State → Prop} (B : BodyLoose p l y (headSpec ws rm) cc maxL ret e s m args below meth c s₁) (ht : ∀ x ∈ c.exceptionTable.toList, False) :
    cu_Prop D p l e rm s m args below meth c mc ms o w (va_A w s.heap.size) (vx_MQ below Qc (vx_X (fun _ : Unit => True) (fun E _ t => o = some E ∧ va_P D vwCl w t.heap) (va_A w s.heap.size)) args s mc ms (va_A w s.heap.size)) s.heap := by
  intro E ce q H locs pc ls rest cells slots hoo hP hS hce hcv hcl hc hs
  refine vx_out (E := E) (ce := ce) (fun x hx => (ht x hx).elim) B.notSynchronized hce hcv hcl (fun t ht _ => ?_) hS.2.2 hc hs
  exact ⟨(), trivial, ⟨hoo, by show va_P D vwCl w t.heap; rw [ht]; exact hP⟩, hS.F ht⟩
set_option maxHeartbeats 1000000 in
theorem cu_openXI {val : Int32} {ty : FieldType} (hlf : l.stackTraces = false) (hy : plainName y.cls = true) (ho : y.cls = RX1) (hw : ws = Cond.code y cc maxL (some ty) :: ws') (hz : (lg_sl av).length ≤ maxL)
    (body : ∀ (p : Program) (e : Env) (s : State) (m : MethodId) (args : Array Value) (below : List Frame) (meth : Method) (c : Code) (A : Nat → Prop) (Z : State → Prop) (H0 : Heap) (ls : Array Slot), s.heap = H0 → p.tables.exec = Jvm.exec → c.code = cc → c.maxLocals = maxL → (∀ w ∈ ws, w.before args s = true) → s.vm.findClass RX1 = some m.cls → meth.name = y.name → cu_G D C s → va_P D vwCl w H0 → va_D A w → va_S A H0 H0 [] → (∀ q : Nat, H0.size ≤ q → A q) → lv_has ls maxL (lv_args 0 av) → cu_T A s H0 →
      (∀ (v : Int32) (H : Heap) (locs : List Loc) (pc : Nat) (ls : Array Slot), narrow ty (.int v) = .int v → o = none → v = val → va_P D vwCl w' H → va_S A H0 H locs → decode cc pc = .ok (.ireturn, 1) → W p l e rm s m args below meth c H locs mc ms Z (F0 m pc ls [.int v])) →
      cu_Thr D p l e rm s m args below meth c cc ws maxL mc ms o w A Z H0 → cu_Prop D p l e rm s m args below meth c mc ms o w A Z H0 →
      W p l e rm s m args below meth c H0 [] 0 0 Z (F0 m 0 ls [])) : cu_XI l D C y ws rm av w w' o val mc ms := by
  intro sz
  refine vx_ofW (cc := cc) (maxL := maxL) (ret := some ty) hy hw ?_
  intro p e s m args below meth c s₁ B hml ht hv
  obtain ⟨rfl, ⟨hsz, hP, hD0, hG⟩, hT⟩ := hv
  subst hsz
  have hl := lv_entry av (n := maxL) hz
  rw [lg_entry_eq]
  refine body p e s m _ below meth c (va_A w s.heap.size) _ _ _ rfl B.exec B.bytes hml (atoms_spec (ws := ws) B.pre) (by rw [← ho]; exact findClass_of_methodNamed B.named) (name_of_methodNamed B.named B.method).1 hG hP hD0.self va_S.rf (fun q h => Or.inr h) hl hT ?_ (cu_thr hlf ho B hml ht hG hT) (cu_prop B ht)
  intro v H locs pc ls hn hon hv hP hS hd
  exact vx_ret (W.zret (v := v) B.exec B.bytes B.returns hn (fun t ht hW => ⟨⟨v, (), rfl, ⟨hon, hv⟩, by show va_P D vwCl w' t.heap; rw [ht]; exact hP⟩, hS.F ht⟩) hS.2.2 hd)
set_option maxHeartbeats 1000000 in
theorem cu_openXV (hlf : l.stackTraces = false) (hy : plainName y.cls = true) (ho : y.cls = RX1) (hw : ws = Cond.code y cc maxL none :: ws') (hz : (lg_sl av).length ≤ maxL)
    (body : ∀ (p : Program) (e : Env) (s : State) (m : MethodId) (args : Array Value) (below : List Frame) (meth : Method) (c : Code) (A : Nat → Prop) (Z : State → Prop) (H0 : Heap) (ls : Array Slot), s.heap = H0 → p.tables.exec = Jvm.exec → c.code = cc → c.maxLocals = maxL → (∀ w ∈ ws, w.before args s = true) → s.vm.findClass RX1 = some m.cls → meth.name = y.name → cu_G D C s → va_P D vwCl w H0 → va_D A w → va_S A H0 H0 [] → (∀ q : Nat, H0.size ≤ q → A q) → lv_has ls maxL (lv_args 0 av) → cu_T A s H0 →
      (∀ (H : Heap) (locs : List Loc) (pc : Nat) (ls : Array Slot), o = none → va_P D vwCl w' H → va_S A H0 H locs → decode cc pc = .ok (.return_, 1) → W p l e rm s m args below meth c H locs mc ms Z (F0 m pc ls [])) →
      cu_Thr D p l e rm s m args below meth c cc ws maxL mc ms o w A Z H0 → cu_Prop D p l e rm s m args below meth c mc ms o w A Z H0 →
      W p l e rm s m args below meth c H0 [] 0 0 Z (F0 m 0 ls [])) : cu_XV l D C y ws rm av w w' o mc ms := by
  intro sz
  refine vx_ofW (cc := cc) (maxL := maxL) (ret := none) hy hw ?_
  intro p e s m args below meth c s₁ B hml ht hv
  obtain ⟨rfl, ⟨hsz, hP, hD0, hG⟩, hT⟩ := hv
  subst hsz
  have hl := lv_entry av (n := maxL) hz
  rw [lg_entry_eq]
  refine body p e s m _ below meth c (va_A w s.heap.size) _ _ _ rfl B.exec B.bytes hml (atoms_spec (ws := ws) B.pre) (by rw [← ho]; exact findClass_of_methodNamed B.named) (name_of_methodNamed B.named B.method).1 hG hP hD0.self va_S.rf (fun q h => Or.inr h) hl hT ?_ (cu_thr hlf ho B hml ht hG hT) (cu_prop B ht)
  intro H locs pc ls hon hP hS hd
  exact vx_ret (W.vret B.exec B.bytes B.returns (fun t ht hW => ⟨⟨(), rfl, hon, by show va_P D vwCl w' t.heap; rw [ht]; exact hP⟩, hS.F ht⟩) hS.2.2 hd)
end CUX
theorem cu_sp.back {W0 w W1 w' : va_W} (h : cu_sp W0 w W1 w') : cu_sp W0 w W0 w := by
  refine ⟨h.1, h.2.1, rfl, fun hn q hq => ?_⟩
  by_cases hm : q.1 ∈ w.map Prod.fst
  · obtain ⟨z, hz, e⟩ := List.mem_map.mp hm
    obtain ⟨i, hi⟩ := List.getElem?_of_mem hq
    obtain ⟨j, hj⟩ := List.getElem?_of_mem (h.1 z hz)
    have e9 := cu_nd2 hn hi hj e.symm
    subst e9
    rw [hi] at hj
    exact Or.inl (by rw [Option.some.inj hj]; exact hz)
  · exact Or.inr ⟨hq, hm⟩
section CUXC
variable {p : Program} {l : Launch} {e : Env} {R : Room} {s : State} {m : MethodId} {args : Array Value} {below : List Frame} {meth : Method} {c : Code} {H : Heap} {locs : List Loc} {cells slots : Nat} {Q : State → Prop}
variable {pc : Nat} {ls : Array Slot} {rest st0 : List Value} {a : Array Value} {A : Nat → Prop} {H0 : Heap} {mc ms : Nat} {D : va_G} {C : Nat → ClassId} {W0 w W1 w' : va_W} {b : Nat} {As : List Value} {o : Option String}
theorem cu_T_in {U : State} (sp : cu_sp W0 w W1 w') (hD : va_D A W0) (hT : cu_T A s H0) (hS : va_S A H0 H locs) (hA : ∀ q : Nat, H0.size ≤ q → A q) (hU : U.heap = H) (hW : s.WarmedH U.vm) : cu_T (va_A w H.size) U U.heap := by
  have hF := sp.F hD hS hA
  rw [hU]
  exact ⟨vx_Zq.moved hW.alike ((vx_Zq.kept hT.1 hS.2.1).narrow hF), vx_Zq.moved hW.alike ((vx_Zq.kept hT.2 hS.2.1).narrow hF)⟩
theorem cu_preXV {ci : Nat} {fs : List Value} {q : vw_C} (sp : cu_sp W0 w W1 w') (hG : cu_G D C s) (hP : va_P D vwCl W0 H) (hD : va_D A W0) (hT : cu_T A s H0) (hS : va_S A H0 H locs) (hA : ∀ q : Nat, H0.size ≤ q → A q) (he : w[0]? = some (b, .inr (ci, fs))) (hc : vwCl[ci]? = some q) : PreV s H q.1 b (va_Pc (.ref b :: As) (cu_BT D C w H.size)) As :=
  ⟨cu_blindT, va_recv hG.1 (sp.P hP) hc he, fun U hU hW => ⟨rfl, ⟨by rw [hU], by rw [hU]; exact sp.P hP, (sp.D hD).weaken (fun _ _ _ _ => trivial), hG.warm hW⟩, cu_T_in sp hD hT hS hA hU hW⟩⟩
theorem cu_preXS (sp : cu_sp W0 w W1 w') (hG : cu_G D C s) (hP : va_P D vwCl W0 H) (hD : va_D A W0) (hT : cu_T A s H0) (hS : va_S A H0 H locs) (hA : ∀ q : Nat, H0.size ≤ q → A q) : PreS s H (va_Pc As (cu_BT D C w H.size)) As :=
  ⟨cu_blindT, fun U hU hW => ⟨rfl, ⟨by rw [hU], by rw [hU]; exact sp.P hP, (sp.D hD).weaken (fun _ _ _ _ => trivial), hG.warm hW⟩, cu_T_in sp hD hT hS hA hU hW⟩⟩
theorem cu_callXV (hr : vx_Run p l e R s m args below meth c H locs cells slots mc ms (F0 m pc ls st0) rest (va_Qv (fun (_ : Unit) => o = none) (fun _ t => va_P D vwCl w' t.heap) (va_A w H.size) a) (vx_X (fun _ : Unit => True) (fun E _ t => o = some E ∧ va_P D vwCl w t.heap) (va_A w H.size)) (va_A w H.size)) (sp : cu_sp W0 w W1 w') (hP : va_P D vwCl W0 H) (hD : va_D A W0) (hS : va_S A H0 H locs) (hA : ∀ q : Nat, H0.size ≤ q → A q)
    (kx : ∀ (E : String) (ce : Cell) (q : Addr) (H1 : Heap) (locs1 : List Loc), o = some E → va_P D vwCl W0 H1 → va_S A H0 H1 locs1 → H1[q]? = some ce → ce.vm = .none → s.vm.findClass E = some ce.cls → vx_W p l e R s m args below meth c H1 locs1 (cells + mc) (slots + ms) Q (F0 m pc ls rest) q)
    (kk : ∀ (H1 : Heap) (locs1 : List Loc), o = none → va_P D vwCl W1 H1 → va_D A W1 → va_S A H0 H1 locs1 → W p l e R s m args below meth c H1 locs1 (cells + mc) (slots + ms) Q (F0 m (pc + 3) ls rest)) : W p l e R s m args below meth c H locs cells slots Q (F0 m pc ls st0) := by
  have hF := sp.F hD hS hA
  refine vx_callv hr hS (fun q _ h => hF q h) hF (fun q _ h => hF q h) (fun E ce q9 u t H1 locs1 ht _ _ hB _ hk hS1 hce hcv hcl => ?_) (fun u t H1 locs1 ht _ hpost hB hz hk hS1 => ?_)
  · obtain ⟨hoo, hB⟩ := hB
    rw [ht] at hB
    exact kx E ce q9 H1 locs1 hoo (sp.back.join hP hD hk hB) hS1 hce hcv hcl
  · rw [ht] at hB
    exact kk H1 locs1 hpost (sp.join hP hD hk hB) (cu_D_fst sp.fst hD) hS1
theorem cu_callXI {val : Int32} (hr : vx_Run p l e R s m args below meth c H locs cells slots mc ms (F0 m pc ls st0) rest (va_Qi (fun (r : Int32) (_ : Unit) => o = none ∧ r = val) (fun _ t => va_P D vwCl w' t.heap) (va_A w H.size) a) (vx_X (fun _ : Unit => True) (fun E _ t => o = some E ∧ va_P D vwCl w t.heap) (va_A w H.size)) (va_A w H.size)) (sp : cu_sp W0 w W1 w') (hP : va_P D vwCl W0 H) (hD : va_D A W0) (hS : va_S A H0 H locs) (hA : ∀ q : Nat, H0.size ≤ q → A q)
    (kx : ∀ (E : String) (ce : Cell) (q : Addr) (H1 : Heap) (locs1 : List Loc), o = some E → va_P D vwCl W0 H1 → va_D A W0 → va_S A H0 H1 locs1 → H1[q]? = some ce → ce.vm = .none → s.vm.findClass E = some ce.cls → vx_W p l e R s m args below meth c H1 locs1 (cells + mc) (slots + ms) Q (F0 m pc ls rest) q)
    (kk : ∀ (H1 : Heap) (locs1 : List Loc), o = none → va_P D vwCl W1 H1 → va_D A W1 → va_S A H0 H1 locs1 → W p l e R s m args below meth c H1 locs1 (cells + mc) (slots + ms) Q (F0 m (pc + 3) ls (.int val :: rest))) : W p l e R s m args below meth c H locs cells slots Q (F0 m pc ls st0) := by
  have hF := sp.F hD hS hA
  refine vx_calli hr hS (fun q _ h => hF q h) hF (fun q _ h => hF q h) (fun E ce q9 u t H1 locs1 ht _ _ hB _ hk hS1 hce hcv hcl => ?_) (fun r u t H1 locs1 ht _ hpost hB hz hk hS1 => ?_)
  · obtain ⟨hoo, hB⟩ := hB
    rw [ht] at hB
    exact kx E ce q9 H1 locs1 hoo (sp.back.join hP hD hk hB) hD hS1 hce hcv hcl
  · obtain ⟨hon, rfl⟩ := hpost
    rw [ht] at hB
    exact kk H1 locs1 hon (sp.join hP hD hk hB) (cu_D_fst sp.fst hD) hS1
end CUXC
end
section
/-! the shop's world: its places -/
theorem cu_row_at {a : Nat → Nat} {b : Nat} {K : Nat → Nat → Int32} {i : Nat} (h : i < 10) : (cu_row a b K)[i]? = some (a (b + i), .inr (0, cu_ck (K i))) := by
  simp [cu_row, h]
theorem cu_row_len {a : Nat → Nat} {b : Nat} {K : Nat → Nat → Int32} : (cu_row a b K).length = 10 := by simp [cu_row]
theorem cu_row_set {a : Nat → Nat} {b : Nat} {K : Nat → Nat → Int32} {i : Nat} (h : i < 10) (k' : Nat → Int32) : (cu_row a b K).set i (a (b + i), .inr (0, cu_ck k')) = cu_row a b (va_up K i k') := by
  apply List.ext_getElem?
  intro j
  by_cases hj : j = i
  · subst hj
    rw [List.getElem?_set_self (by rw [cu_row_len]; exact h), cu_row_at h, va_up_self]
  · rw [List.getElem?_set_ne (Ne.symm hj)]
    by_cases hj2 : j < 10
    · rw [cu_row_at hj2, cu_row_at hj2, va_up_ne _ _ hj]
    · rw [List.getElem?_eq_none (by rw [cu_row_len]; omega), List.getElem?_eq_none (by rw [cu_row_len]; omega)]
section CW
variable {C : Nat → ClassId} {a : Nat → Nat} {n m : Int32} {K P : Nat → Nat → Int32} {i : Nat}
theorem cu_cw_K (h : i < 10) : (cu_cw C a n m K P)[3 + i]? = some (a (3 + i), .inr (0, cu_ck (K i))) := by
  rw [show 3 + i = ((i + 1) + 1) + 1 by omega]
  unfold cu_cw
  rw [List.getElem?_cons_succ, List.getElem?_cons_succ, List.getElem?_cons_succ, List.getElem?_append_left (by rw [cu_row_len]; exact h), cu_row_at h]
  rw [show 3 + i = ((i + 1) + 1) + 1 by omega]
theorem cu_cw_P (h : i < 10) : (cu_cw C a n m K P)[13 + i]? = some (a (13 + i), .inr (0, cu_ck (P i))) := by
  rw [show 13 + i = (((10 + i) + 1) + 1) + 1 by omega]
  unfold cu_cw
  rw [List.getElem?_cons_succ, List.getElem?_cons_succ, List.getElem?_cons_succ, List.getElem?_append_right (by rw [cu_row_len]; omega), cu_row_len, show 10 + i - 10 = i by omega, cu_row_at h]
  rw [show 13 + i = (((10 + i) + 1) + 1) + 1 by omega]
theorem cu_cw_setK (h : i < 10) (k' : Nat → Int32) : (cu_cw C a n m K P).set (3 + i) (a (3 + i), .inr (0, cu_ck k')) = cu_cw C a n m (va_up K i k') P := by
  unfold cu_cw
  rw [show (3 : Nat) + i = ((i + 1) + 1) + 1 by omega, List.set_cons_succ, List.set_cons_succ, List.set_cons_succ, List.set_append_left i _ (by rw [cu_row_len]; exact h), ← cu_row_set h k']
  rw [show (3 : Nat) + i = ((i + 1) + 1) + 1 by omega]
theorem cu_cw_setP (h : i < 10) (k' : Nat → Int32) : (cu_cw C a n m K P).set (13 + i) (a (13 + i), .inr (0, cu_ck k')) = cu_cw C a n m K (va_up P i k') := by
  unfold cu_cw
  rw [show (13 : Nat) + i = (((10 + i) + 1) + 1) + 1 by omega, List.set_cons_succ, List.set_cons_succ, List.set_cons_succ, List.set_append_right _ _ (by rw [cu_row_len]; omega), cu_row_len, show 10 + i - 10 = i by omega, ← cu_row_set h k']
  rw [show (13 : Nat) + i = (((10 + i) + 1) + 1) + 1 by omega]
theorem cu_spK (h : i < 10) (k' : Nat → Int32) : cu_sp (cu_cw C a n m K P) (cu_wc (a (3 + i)) (K i)) (cu_cw C a n m (va_up K i k') P) (cu_wc (a (3 + i)) k') := by
  have h1 := cu_sp.one (.inr (0, cu_ck k')) (cu_cw_K (C := C) (a := a) (n := n) (m := m) (K := K) (P := P) h)
  rw [cu_cw_setK h] at h1
  exact h1
theorem cu_spP (h : i < 10) (k' : Nat → Int32) : cu_sp (cu_cw C a n m K P) (cu_wc (a (13 + i)) (P i)) (cu_cw C a n m K (va_up P i k')) (cu_wc (a (13 + i)) k') := by
  have h1 := cu_sp.one (.inr (0, cu_ck k')) (cu_cw_P (C := C) (a := a) (n := n) (m := m) (K := K) (P := P) h)
  rw [cu_cw_setP h] at h1
  exact h1
theorem cu_spC (h : i < 10) : cu_sp (cu_cw C a n m K P) [(a (13 + i), .inr (0, cu_ck (P i))), (a (3 + i), .inr (0, cu_ck (K i)))] (cu_cw C a n m K (va_up P i (K i))) [(a (13 + i), .inr (0, cu_ck (K i))), (a (3 + i), .inr (0, cu_ck (K i)))] := by
  have h1 := cu_sp.two (.inr (0, cu_ck (K i))) (cu_cw_P (C := C) (a := a) (n := n) (m := m) (K := K) (P := P) h) (cu_cw_K h) (by omega)
  rw [cu_cw_setP h] at h1
  exact h1
/-- the addresses are what they were, whatever the clocks hold -/
theorem cu_cw_fst {n' m' : Int32} {K' P' : Nat → Nat → Int32} : (cu_cw C a n' m' K' P').map Prod.fst = (cu_cw C a n m K P).map Prod.fst := by
  simp [cu_cw, cu_row]
  rfl
variable {p : Program} {l : Launch} {e : Env} {R : Room} {s : State} {mm : MethodId} {args : Array Value} {below : List Frame} {meth : Method} {c : Code} {H : Heap} {locs : List Loc} {cells slots : Nat} {Q : State → Prop} {cc : ByteArray} {pc : Nat} {ls : Array Slot} {rest : List Value} {D : va_G}
theorem cu_aaldK (h : i < 10) (hx : p.tables.exec = Jvm.exec) (hb : c.code = cc) (hK : va_K D vwCl (cu_tys C) s) (hP : va_P D vwCl (cu_cw C a n m K P) H) (hdg : decode cc pc = .ok (.aaload, 1))
    (k : W p l e R s mm args below meth c H locs cells slots Q (F0 mm (pc + 1) ls (.ref (a (3 + i)) :: rest))) : W p l e R s mm args below meth c H locs cells slots Q (F0 mm pc ls (.int (nI i) :: .ref (a 1) :: rest)) := by
  refine va_aldq (n := 10) (f := fun i => some (a (3 + i))) hx hb hK hP 1 1 rfl rfl (vp_in_nI h (by decide)) hdg ?_
  rw [nI_clamp (by omega)]
  exact k
theorem cu_aaldP (h : i < 10) (hx : p.tables.exec = Jvm.exec) (hb : c.code = cc) (hK : va_K D vwCl (cu_tys C) s) (hP : va_P D vwCl (cu_cw C a n m K P) H) (hdg : decode cc pc = .ok (.aaload, 1))
    (k : W p l e R s mm args below meth c H locs cells slots Q (F0 mm (pc + 1) ls (.ref (a (13 + i)) :: rest))) : W p l e R s mm args below meth c H locs cells slots Q (F0 mm pc ls (.int (nI i) :: .ref (a 2) :: rest)) := by
  refine va_aldq (n := 10) (f := fun i => some (a (13 + i))) hx hb hK hP 2 1 rfl rfl (vp_in_nI h (by decide)) hdg ?_
  rw [nI_clamp (by omega)]
  exact k
end CW
theorem cu_top {p : Program} {l : Launch} {e : Env} {R : Room} {s : State} {m : MethodId} {args : Array Value} {below : List Frame} {meth : Method} {c : Code} {H : Heap} {locs : List Loc} {cells slots : Nat} {Q : State → Prop} {pc : Nat} {ls : Array Slot} {rest : List Value} {x x' : Int32} (h : x = x') (k : W p l e R s m args below meth c H locs cells slots Q (F0 m pc ls (.int x' :: rest))) : W p l e R s m args below meth c H locs cells slots Q (F0 m pc ls (.int x :: rest)) := by rw [h]; exact k
end
section
/-! WHAT THE SHOP DOES, in numbers: N clocks K, the minute m -/
def k_isW (x lo hi : Int32) : Int32 := if x < lo then 0 else if hi < x then 0 else 1
def k_tt (m : Int32) : Int32 := k_fm m 720
def k_off (K : Nat → Int32) (m : Int32) : Int32 := k_fm (K 0 - k_tt m + 360) 720 - 360
def k_sum (f : Nat → Int32) : Nat → Int32
  | 0 => 0
  | n + 1 => k_sum f n + f n
def k_all (N : Nat) (K : Nat → Nat → Int32) (w : Int32) : Int32 := k_sum (fun c => k_read (K c) w) N
def k_offs (N : Nat) (K : Nat → Nat → Int32) (m : Int32) : Int32 := k_sum (fun c => k_abs (k_off (K c) m)) N
def k_trues (N : Nat) (K : Nat → Nat → Int32) (m : Int32) : Int32 := k_sum (fun c => if k_off (K c) m = 0 then 1 else 0) N
def k_tally (N : Nat) (K : Nat → Nat → Int32) (m w : Int32) : Int32 :=
  if w = 0 then m else if w = 1 then k_tt m else if w = 2 then nI N else if w = 3 then k_all N K 5 else if w = 4 then k_all N K 7 else if w = 5 then k_all N K 9 else if w = 6 then k_trues N K m else k_offs N K m
def k_upto (g : (Nat → Int32) → Nat → Int32) (K : Nat → Nat → Int32) (i : Nat) : Nat → Nat → Int32 := fun j => if j < i then g (K j) else K j
def k_cpy (K P : Nat → Nat → Int32) (i : Nat) : Nat → Nat → Int32 := fun j => if j < i then K j else P j
/-- the calls of a minute -/
def k_lat (N : Nat) (v : Int32) (K : Nat → Nat → Int32) : Int32 := k_sum (fun c => k_min v (K c) 8) N
/-- the shop i minutes on -/
def k_at (N : Nat) (m : Int32) (K : Nat → Nat → Int32) : Nat → Nat → Nat → Int32
  | 0 => K
  | i + 1 => k_upto (k_min (m + nI i)) (k_at N m K i) N
def k_latest (N : Nat) (m : Int32) (K : Nat → Nat → Int32) (i : Nat) : Int32 := k_lat N (m + nI i) (k_at N m K i)
def k_calls (N : Nat) (m : Int32) (K : Nat → Nat → Int32) (t : Nat) : Int32 := k_sum (k_latest N m K) t
/-- one clock i minutes on -/
def k_at1 (m : Int32) (K : Nat → Int32) : Nat → Nat → Int32
  | 0 => K
  | i + 1 => k_min (m + nI i) (k_at1 m K i)
def k_nextR (m : Int32) (K : Nat → Int32) : Nat → Nat → Int32
  | 0, _ => -1
  | j + 1, i => if k_at1 m K (i + 1) 8 ≤ 0 then k_nextR m K j (i + 1) else nI i + 1
def k_next (m : Int32) (K : Nat → Int32) : Int32 := k_nextR m K 720 0
def k_loud1 (N : Nat) (m : Int32) (K : Nat → Nat → Int32) (i : Nat) (u : Int32 × Int32) : Int32 × Int32 := if k_latest N m K i ≤ u.1 then u else (k_latest N m K i, nI i + 1)
def k_loudR (N : Nat) (m : Int32) (K : Nat → Nat → Int32) : Nat → Nat → Int32 × Int32 → Int32 × Int32
  | 0, _, u => u
  | j + 1, i, u => k_loudR N m K j (i + 1) (k_loud1 N m K i u)
def k_loud (N : Nat) (m : Int32) (K : Nat → Nat → Int32) (t : Nat) : Int32 := (k_loudR N m K t 0 (0, -1)).2
def k_fore (N : Nat) (m : Int32) (K Q : Nat → Nat → Int32) (t : Nat) (w : Int32) : Int32 :=
  if w = 0 then k_calls N m Q t else if w = 1 then k_all N (k_at N m Q t) 8 - k_all N K 8 else if w = 2 then k_all N (k_at N m Q t) 5 else k_offs N (k_at N m Q t) (m + nI t)
def k_nextS (m : Int32) (K : Nat → Int32) : Nat → Nat → Nat → Int32
  | 0, i => k_at1 m K i
  | j + 1, i => if k_at1 m K (i + 1) 8 ≤ 0 then k_nextS m K j (i + 1) else k_at1 m K (i + 1)
def k_mendV (K : Nat → Int32) (w : Int32) : Int32 := if w = 0 then 100 - K 3 else if w = 1 then 60 - K 4 else k_nudge K
def k_mendK (K : Nat → Int32) (w : Int32) : Nat → Int32 := if w = 0 then upd K 3 100 else if w = 1 then upd K 4 60 else upd K 5 (k_nudge K)
theorem k_m0 (m : Int32) : m + nI 0 = m := by rw [nI_0, Int32.add_zero]
def k_goSum (N : Nat) (K : Nat → Nat → Int32) : Int32 := k_sum (fun c => if K c 5 = 0 then 0 else 1) N
def k_advSum (N : Nat) (K : Nat → Nat → Int32) : Int32 := k_sum (fun c => if K c 5 = 0 then 0 else k_adv (K c)) N
def k_mean (N : Nat) (K : Nat → Nat → Int32) : UInt64 := if k_goSum N K = 0 then FP.dconst0 else FP.ddiv (FP.i2d (k_advSum N K)) (FP.i2d (k_goSum N K))
def k_digT (N : Nat) (K : Nat → Nat → Int32) (m : Int32) : Nat → Int64
  | 0 => 1009
  | i + 1 => k_digT N K m i * 31 + (k_tally N K m (nI i)).toInt64
def k_digC (K : Nat → Nat → Int32) (d : Int64) : Nat → Int64
  | 0 => d
  | i + 1 => k_mix (K i) (k_digC K d i)
def k_dig (N : Nat) (K : Nat → Nat → Int32) (m : Int32) : Int64 := k_digC K (k_digT N K m 8) N
-- which exception a call throws
def k_oC (N : Nat) (v : Int32) : Option String := if v < 0 then some x_IOB else if v < nI N then none else some x_IOB
def k_oT (v : Int32) : Option String := if k_isW v 0 719 = 0 then some x_IAE else none
def k_oM (v : Int32) : Option String := if k_isW v 1 720 = 0 then some x_IAE else none
def k_oN (N : Nat) : Option String := if nI N < 10 then none else some x_ISE
def k_oG (a b s : Int32) : Option String := if k_isW a 20 40 = 0 then some x_IAE else if k_isW b 20 40 = 0 then some x_IAE else if k_isW s (-20) 20 = 0 then some x_IAE else none
def k_oE (v : Int32) : Option String := if v = 0 then none else if v = 1 then none else if v = 2 then none else some x_IAE
def k_oS3 (f t : Int32) : Option String := if f = -1 then (if t = 0 then none else some x_IAE) else none
def k_oS (f t : Int32) : Option String := (if f = -1 then none else k_oT f).or ((k_oT t).or (k_oS3 f t))
def k_oR (w : Int32) : Option String := if k_isW w 0 10 = 0 then some x_IOB else none
def k_oY (w : Int32) : Option String := if k_isW w 0 7 = 0 then some x_IOB else none
def k_oF (w : Int32) : Option String := if k_isW w 0 3 = 0 then some x_IOB else none
theorem k_oC_in {N : Nat} {v : Int32} (hN : N ≤ 10) (h : k_oC N v = none) : ∃ i : Nat, i < N ∧ v = nI i := by
  unfold k_oC at h
  rcases pk_ix v (n := N) (by omega) with h1 | h1 | h1
  · rw [if_pos h1] at h; cases h
  · by_cases h2 : v < 0
    · rw [if_pos h2] at h; cases h
    · rw [if_neg h2] at h
      by_cases h3 : v < nI N
      · exact absurd h3 (Int32.not_lt.mpr h1)
      · rw [if_neg h3] at h; cases h
  · exact h1
theorem k_oM_in {v : Int32} (h : k_oM v = none) : ∃ t : Nat, 1 ≤ t ∧ t ≤ 720 ∧ v = nI t := by
  unfold k_oM k_isW at h
  by_cases h1 : v < 1
  · rw [if_pos h1] at h; simp at h
  · rw [if_neg h1] at h
    by_cases h2 : 720 < v
    · rw [if_pos h2] at h; simp at h
    · have e1 : ¬ v.toInt < 1 := fun z => h1 (Int32.lt_iff_toInt_lt.mpr z)
      have e2 : ¬ 720 < v.toInt := fun z => h2 (Int32.lt_iff_toInt_lt.mpr z)
      obtain ⟨t, ht, e⟩ := nI_of (x := v) (fun z => e1 (by have := Int32.lt_iff_toInt_lt.mp z; have e0 : (0 : Int32).toInt = 0 := rfl; omega))
      subst e
      rw [nI_toInt ht] at e1 e2
      exact ⟨t, by omega, by omega, rfl⟩
theorem k_upto_0 {g : (Nat → Int32) → Nat → Int32} {K : Nat → Nat → Int32} : k_upto g K 0 = K := by funext j; simp [k_upto]
theorem k_upto_i {g : (Nat → Int32) → Nat → Int32} {K : Nat → Nat → Int32} {i : Nat} : k_upto g K i i = K i := by simp [k_upto]
theorem k_upto_s {g : (Nat → Int32) → Nat → Int32} {K : Nat → Nat → Int32} {i : Nat} : va_up (k_upto g K i) i (g (K i)) = k_upto g K (i + 1) := by
  funext j
  by_cases h : j = i
  · subst h; rw [va_up_self]; simp [k_upto]
  · rw [va_up_ne _ _ h]
    simp only [k_upto]
    by_cases h2 : j < i
    · rw [if_pos h2, if_pos (by omega)]
    · rw [if_neg h2, if_neg (by omega)]
theorem k_cpy_0 {K P : Nat → Nat → Int32} : k_cpy K P 0 = P := by funext j; simp [k_cpy]
theorem k_cpy_s {K P : Nat → Nat → Int32} {i : Nat} : va_up (k_cpy K P i) i (K i) = k_cpy K P (i + 1) := by
  funext j
  by_cases h : j = i
  · subst h; rw [va_up_self]; simp [k_cpy]
  · rw [va_up_ne _ _ h]
    simp only [k_cpy]
    by_cases h2 : j < i
    · rw [if_pos h2, if_pos (by omega)]
    · rw [if_neg h2, if_neg (by omega)]
end
section
set_option maxHeartbeats 4000000 in
set_option maxRecDepth 100000 in
theorem m_J9_floorMod_7cf53 (l : Launch) (D : va_G) (C : Nat → ClassId) (v1 v2 : Int32) (hy0 : ¬ v2 = 0) : cu_I l D C yJ9_floorMod_7cf53 wsJ9_floorMod_7cf53 { frames := 0, cells := 0, slots := 0, locals := 0 } [.int v1, .int v2] ([] : va_W) ([] : va_W) (k_fm v1 v2) 0 0 := by
  refine cu_openIF (cc := cJ9_floorMod_7cf53) (maxL := 3) (ty := .int) (own := RJ9) (by decide +kernel) rfl rfl (Nat.le_of_ble_eq_true rfl) ?_
  intro p e s m args below meth c A Z H0 ls e0 hx hb hml hts hown hnm hG hP hD hS hA hl fin
  have hK := hG.1
  have hl : lv_has ls 3 [(0, .int v1), (1, .int v2)] := hl
  refine lv_iload_n hx hb dJ9_floorMod_7cf53_0 rfl (lv_at hl 0 rfl) ?_
  refine lv_iload_n hx hb dJ9_floorMod_7cf53_1 rfl (lv_at hl 1 rfl) ?_
  refine lv_irem hx hb dJ9_floorMod_7cf53_2 hy0 ?_
  refine lv_istore_n (lv' := [(2, .int (v1 - v1 / v2 * v2)), (0, .int v1), (1, .int v2)]) hx hb dJ9_floorMod_7cf53_3 rfl hl (by decide) rfl (fun ls hl => ?_)
  refine lv_iload_n hx hb dJ9_floorMod_7cf53_4 rfl (lv_at hl 1 rfl) ?_
  refine lv_iload_n hx hb dJ9_floorMod_7cf53_5 rfl (lv_at hl 2 rfl) ?_
  refine lv_ixor hx hb dJ9_floorMod_7cf53_6 ?_
  refine lv_if_ge (tgt := 18) hx hb dJ9_floorMod_7cf53_7 (by decide) (fun c_7 => ?_) (fun c_7 => ?_)
  · refine lv_iload_n hx hb dJ9_floorMod_7cf53_18 rfl (lv_at hl 0 rfl) ?_
    exact fin _ _ _ _ _ rfl (by simp only [k_fm, if_pos c_7, reduceIte]) hP hS dJ9_floorMod_7cf53_19
  · refine lv_iload_n hx hb dJ9_floorMod_7cf53_10 rfl (lv_at hl 0 rfl) ?_
    refine lv_if_eq (tgt := 18) hx hb dJ9_floorMod_7cf53_11 (by decide) (fun c_11 => ?_) (fun c_11 => ?_)
    · refine lv_iload_n hx hb dJ9_floorMod_7cf53_18 rfl (lv_at hl 0 rfl) ?_
      exact fin _ _ _ _ _ rfl (by simp only [k_fm, if_neg c_7, if_pos c_11, reduceIte]) hP hS dJ9_floorMod_7cf53_19
    · refine lv_iload_n hx hb dJ9_floorMod_7cf53_14 rfl (lv_at hl 0 rfl) ?_
      refine lv_iload_n hx hb dJ9_floorMod_7cf53_15 rfl (lv_at hl 2 rfl) ?_
      refine lv_iadd hx hb dJ9_floorMod_7cf53_16 ?_
      exact fin _ _ _ _ _ rfl (by simp only [k_fm, if_neg c_7, if_neg c_11, reduceIte]) hP hS dJ9_floorMod_7cf53_17

set_option maxHeartbeats 4000000 in
set_option maxRecDepth 100000 in
theorem m_X1_isWithin (l : Launch) (D : va_G) (C : Nat → ClassId) (v1 : Int32) (v2 : Int32) (v3 : Int32) : cu_I l D C yX1_isWithin wsX1_isWithin { frames := 0, cells := 0, slots := 0, locals := 0 } [.int v1, .int v2, .int v3] ([] : va_W) ([] : va_W) (k_isW v1 v2 v3) 0 0 := by
  refine cu_openI (cc := cX1_isWithin) (maxL := 3) (ty := .boolean) (own := RX1) (by decide) rfl rfl (Nat.le_of_ble_eq_true rfl) ?_
  intro p e s m args below meth c A Z H0 ls e0 hx hb hml hts hown hnm hG hP hD hS hA hl fin
  have hK := hG.1
  have hl : lv_has ls 3 [(0, .int v1), (1, .int v2), (2, .int v3)] := hl
  refine lv_iload_n hx hb dX1_isWithin_0 rfl (lv_at hl 0 rfl) ?_
  refine lv_iload_n hx hb dX1_isWithin_1 rfl (lv_at hl 1 rfl) ?_
  refine lv_icmp_lt (tgt := 14) hx hb dX1_isWithin_2 (by decide) (fun c_2 => ?_) (fun c_2 => ?_)
  · refine lv_iconst (v := 0) hx hb dX1_isWithin_14 (by decide) ?_
    exact fin _ _ _ _ _ (by decide) (by simp only [k_isW, if_pos c_2, reduceIte]) hP hS dX1_isWithin_15
  · refine lv_iload_n hx hb dX1_isWithin_5 rfl (lv_at hl 0 rfl) ?_
    refine lv_iload_n hx hb dX1_isWithin_6 rfl (lv_at hl 2 rfl) ?_
    refine lv_icmp_gt (tgt := 14) hx hb dX1_isWithin_7 (by decide) (fun c_7 => ?_) (fun c_7 => ?_)
    · refine lv_iconst (v := 0) hx hb dX1_isWithin_14 (by decide) ?_
      exact fin _ _ _ _ _ (by decide) (by simp only [k_isW, if_neg c_2, if_pos c_7, reduceIte]) hP hS dX1_isWithin_15
    · refine lv_iconst (v := 1) hx hb dX1_isWithin_10 (by decide) ?_
      refine lv_goto (tgt := 15) hx hb dX1_isWithin_11 (by decide) ?_
      exact fin _ _ _ _ _ (by decide) (by simp only [k_isW, if_neg c_2, if_neg c_7, reduceIte]) hP hS dX1_isWithin_15

set_option maxHeartbeats 4000000 in
set_option maxRecDepth 100000 in
theorem m_X1_trueTime (l : Launch) (D : va_G) (C : Nat → ClassId) (v1 : Int32) : cu_I l D C yX1_trueTime wsX1_trueTime { frames := 1, cells := 0, slots := 0, locals := 22 } [.int v1] ([] : va_W) ([] : va_W) (k_tt v1) 0 0 := by
  refine cu_openI (cc := cX1_trueTime) (maxL := 1) (ty := .int) (own := RX1) (by decide) rfl rfl (Nat.le_of_ble_eq_true rfl) ?_
  intro p e s m args below meth c A Z H0 ls e0 hx hb hml hts hown hnm hG hP hD hS hA hl fin
  have hK := hG.1
  have hl : lv_has ls 1 [(0, .int v1)] := hl
  refine lv_iload_n hx hb dX1_trueTime_0 rfl (lv_at hl 0 rfl) ?_
  refine lv_sipush (v := 720) hx hb dX1_trueTime_1 (by decide) ?_
  have sp := cu_sp.nil (W0 := ([] : va_W))
  refine cu_callI (va_runS (As := [.int v1, .int 720]) (rest := []) ⟨hx, hb, hml, hown, hts⟩ ((m_J9_floorMod_7cf53 l D C v1 720 (by decide)) H0.size) (va_cwS 2 hts gX1_trueTime_J9_floorMod_7cf53 rfl rfl rfl (by decide +kernel) ⟨Nat.le_of_ble_eq_true rfl, Nat.le_of_ble_eq_true rfl⟩) (cu_preS sp hG hP hD) rfl rfl hl.1 rfl (lv_room (Nat.le_of_ble_eq_true rfl)) dX1_trueTime_4 ⟨Nat.le_of_ble_eq_true rfl, Nat.le_of_ble_eq_true rfl⟩) sp hP hD hS hA (fun H locs hP hD hS => ?_)
  exact fin _ _ _ _ _ rfl (by rfl) hP hS dX1_trueTime_7

set_option maxHeartbeats 4000000 in
set_option maxRecDepth 100000 in
theorem m_X1_offOf (l : Launch) (D : va_G) (C : Nat → ClassId) (h0 : Nat) (K : Nat → Int32) (v1 : Int32) : cu_I l D C yX1_offOf wsX1_offOf { frames := 2, cells := 0, slots := 0, locals := 42 } [.ref h0, .int v1] (cu_wc h0 K) (cu_wc h0 K) (k_off K v1) 0 0 := by
  refine cu_openI (cc := cX1_offOf) (maxL := 3) (ty := .int) (own := RX1) (by decide) rfl rfl (Nat.le_of_ble_eq_true rfl) ?_
  intro p e s m args below meth c A Z H0 ls e0 hx hb hml hts hown hnm hG hP hD hS hA hl fin
  have hK := hG.1
  have hl : lv_has ls 3 [(0, .ref h0), (1, .int v1)] := hl
  have hiX0 : ∀ w ∈ wsX00, w ∈ wsX1_offOf := by decide +kernel
  refine lv_aload_n hx hb dX1_offOf_0 rfl (lv_at hl 0 rfl) ?_
  refine va_getN (host := RX1) (D := D) (ci := 0) (v := .int (K 0)) (C := RX0) (T := TX0) (N := 14) hx hb hts hiX0 hown hK hP 0 rfl rfl 7 (by decide) (va_Nw.use rfl (hG.2.2.1 (157, "shown", "I") (by decide +kernel))) (fun _ h9 => h9) rfl dX1_offOf_1 ?_
  refine lv_iload_n hx hb dX1_offOf_4 rfl (lv_at hl 1 rfl) ?_
  have sp := cu_sp.nil (W0 := (cu_wc h0 K))
  refine cu_callI (va_runS (As := [.int v1]) (rest := [.int (K 0)]) ⟨hx, hb, hml, hown, hts⟩ ((m_X1_trueTime l D C v1) H0.size) (va_cwS 1 hts gX1_offOf_X1_trueTime rfl rfl rfl (by decide +kernel) ⟨Nat.le_of_ble_eq_true rfl, Nat.le_of_ble_eq_true rfl⟩) (cu_preS sp hG hP hD) rfl rfl hl.1 rfl (lv_room (Nat.le_of_ble_eq_true rfl)) dX1_offOf_5 ⟨Nat.le_of_ble_eq_true rfl, Nat.le_of_ble_eq_true rfl⟩) sp hP hD hS hA (fun H locs hP hD hS => ?_)
  refine lv_isub hx hb dX1_offOf_8 ?_
  refine lv_istore_n (lv' := [(2, .int ((K 0) - (k_tt v1))), (0, .ref h0), (1, .int v1)]) hx hb dX1_offOf_9 rfl hl (by decide) rfl (fun ls hl => ?_)
  refine lv_iload_n hx hb dX1_offOf_10 rfl (lv_at hl 0 rfl) ?_
  refine lv_sipush (v := 360) hx hb dX1_offOf_11 (by decide) ?_
  refine lv_iadd hx hb dX1_offOf_14 ?_
  refine lv_sipush (v := 720) hx hb dX1_offOf_15 (by decide) ?_
  have sp := cu_sp.nil (W0 := (cu_wc h0 K))
  refine cu_callI (va_runS (As := [.int (((K 0) - (k_tt v1)) + 360), .int 720]) (rest := []) ⟨hx, hb, hml, hown, hts⟩ ((m_J9_floorMod_7cf53 l D C (((K 0) - (k_tt v1)) + 360) 720 (by decide)) H.size) (va_cwS 2 hts gX1_offOf_J9_floorMod_7cf53 rfl rfl rfl (by decide +kernel) ⟨Nat.le_of_ble_eq_true rfl, Nat.le_of_ble_eq_true rfl⟩) (cu_preS sp hG hP hD) rfl rfl hl.1 rfl (lv_room (Nat.le_of_ble_eq_true rfl)) dX1_offOf_18 ⟨Nat.le_of_ble_eq_true rfl, Nat.le_of_ble_eq_true rfl⟩) sp hP hD hS hA (fun H locs hP hD hS => ?_)
  refine lv_sipush (v := 360) hx hb dX1_offOf_21 (by decide) ?_
  refine lv_isub hx hb dX1_offOf_24 ?_
  exact fin _ _ _ _ _ rfl (by rfl) hP hS dX1_offOf_25

set_option maxHeartbeats 4000000 in
set_option maxRecDepth 100000 in
theorem m_X1_runRow (l : Launch) (D : va_G) (C : Nat → ClassId) (a : Nat → Nat) (N : Nat) (hN : N ≤ 10) (mn : Int32) (K P : Nat → Nat → Int32) (v1 : Int32) : cu_I l D C yX1_runRow wsX1_runRow { frames := 4, cells := 0, slots := 0, locals := 86 } [.ref (a 0), .ref (a 1), .int v1] (cu_cw C a (nI N) mn K P) (cu_cw C a (nI N) mn (k_upto (k_min v1) K N) P) (k_lat N v1 K) 0 0 := by
  refine cu_openI (cc := cX1_runRow) (maxL := 5) (ty := .int) (own := RX1) (by decide) rfl rfl (Nat.le_of_ble_eq_true rfl) ?_
  intro p e s m args below meth c A Z H0 ls e0 hx hb hml hts hown hnm hG hP hD hS hA hl fin
  have hK := hG.1
  have hl : lv_has ls 5 [(0, .ref (a 0)), (1, .ref (a 1)), (2, .int v1)] := hl
  have hiX0 : ∀ w ∈ wsX00, w ∈ wsX1_runRow := by decide +kernel
  have hiX1 : ∀ w ∈ wsX10, w ∈ wsX1_runRow := by decide +kernel
  refine lv_iconst (v := 0) hx hb dX1_runRow_0 (by decide) ?_
  refine lv_istore_n (lv' := [(3, .int 0), (0, .ref (a 0)), (1, .ref (a 1)), (2, .int v1)]) hx hb dX1_runRow_1 rfl hl (by decide) rfl (fun ls hl => ?_)
  refine lv_iconst (v := 0) hx hb dX1_runRow_2 (by decide) ?_
  refine lv_istore (lv' := [(4, .int 0), (3, .int 0), (0, .ref (a 0)), (1, .ref (a 1)), (2, .int v1)]) hx hb dX1_runRow_3 hl (by decide) rfl (fun ls hl => ?_)
  rw [← k_upto_0 (g := k_min v1) (K := K)] at hP hD
  have loop : ∀ (j : Nat), ∀ (i : Nat), i + j = N → ∀ (H : Heap) (locs : List Loc) (ls : Array Slot), va_P D vwCl (cu_cw C a (nI N) mn (k_upto (k_min v1) K i) P) H → va_D A (cu_cw C a (nI N) mn (k_upto (k_min v1) K i) P) → va_S A H0 H locs → lv_has ls 5 [(0, .ref (a 0)), (1, .ref (a 1)), (2, .int v1), (3, .int (k_sum (fun c => k_min v1 (K c) 8) i)), (4, .int (nI i))] → W p l e { frames := 4, cells := 0, slots := 0, locals := 86 } s m args below meth c H locs 0 0 Z (F0 m 5 ls []) := by
    intro j
    induction j with
    | zero =>
      intro i hj H locs ls hP hD hS hl
      have eN : i = N := by omega
      refine lv_iload hx hb dX1_runRow_5 (lv_at hl 4 rfl) ?_
      refine lv_aload_n hx hb dX1_runRow_7 rfl (lv_at hl 0 rfl) ?_
      refine va_get (D := D) (ci := 1) (v := .int (nI N)) (C := RX1) (T := TX1) (N := 4) hx hb hts hiX1 hown hK hP 0 rfl rfl 2 (by decide) (hts (.fieldLink RX1 19 "CuckooShop" "present" "I") (by decide +kernel)) (fun _ h9 => h9) rfl dX1_runRow_8 ?_
      refine lv_icmp_ge (tgt := 38) hx hb dX1_runRow_11 (by decide) (fun c_11 => ?_) (fun c_11 => absurd (nI_le (a := N) (by omega) (by omega)) c_11)
      refine lv_iload_n hx hb dX1_runRow_38 rfl (lv_at hl 3 rfl) ?_
      exact fin _ _ _ _ _ rfl (by rw [eN]; rfl) (by rw [eN] at hP; exact hP) hS dX1_runRow_39
    | succ j ih =>
      intro i hj H locs ls hP hD hS hl
      have hi : i < 10 := by omega
      refine lv_iload hx hb dX1_runRow_5 (lv_at hl 4 rfl) ?_
      refine lv_aload_n hx hb dX1_runRow_7 rfl (lv_at hl 0 rfl) ?_
      refine va_get (D := D) (ci := 1) (v := .int (nI N)) (C := RX1) (T := TX1) (N := 4) hx hb hts hiX1 hown hK hP 0 rfl rfl 2 (by decide) (hts (.fieldLink RX1 19 "CuckooShop" "present" "I") (by decide +kernel)) (fun _ h9 => h9) rfl dX1_runRow_8 ?_
      refine lv_icmp_ge (tgt := 38) hx hb dX1_runRow_11 (by decide) (fun c_11 => absurd c_11 (nI_ge (b := N) (by omega) (by omega))) (fun c_11 => ?_)
      refine lv_aload_n hx hb dX1_runRow_14 rfl (lv_at hl 1 rfl) ?_
      refine lv_iload hx hb dX1_runRow_15 (lv_at hl 4 rfl) ?_
      refine cu_aaldK hi hx hb hK hP dX1_runRow_17 ?_
      refine lv_iload_n hx hb dX1_runRow_18 rfl (lv_at hl 2 rfl) ?_
      have sp := cu_spK (C := C) (a := a) (n := (nI N)) (m := mn) (K := (k_upto (k_min v1) K i)) (P := P) hi (k_min v1 ((k_upto (k_min v1) K i) i))
      refine cu_callV (va_runVN (As := [.int v1]) (rest := []) ⟨hx, hb, hml, hown, hts⟩ ((m_X0_runMinute l D C (a (3 + i)) ((k_upto (k_min v1) K i) i) v1) H.size) ⟨(va_cnB 1 hts gX1_runRow_X0_runMinute_n111 rfl rfl rfl (hG.2.1 (111, yX0_runMinute) (by decide +kernel)) (hts (.initialized RX0) (by decide +kernel)) (by decide +kernel) ⟨Nat.le_of_ble_eq_true rfl, Nat.le_of_ble_eq_true rfl⟩), hts (.instanceMethod yX0_runMinute) (by decide +kernel), hts (.selects RX0 yX0_runMinute yX0_runMinute) (by decide +kernel)⟩ (cu_preV (ci := 0) sp hG hP hD rfl rfl) rfl rfl hl.1 rfl (lv_room (Nat.le_of_ble_eq_true rfl)) dX1_runRow_19 ⟨Nat.le_of_ble_eq_true rfl, Nat.le_of_ble_eq_true rfl⟩) sp hP hD hS hA (fun H locs hP hD hS => ?_)
      have hP : va_P D vwCl (cu_cw C a (nI N) mn (va_up (k_upto (k_min v1) K i) i (k_min v1 ((k_upto (k_min v1) K i) i))) P) H := hP
      have hD : va_D A (cu_cw C a (nI N) mn (va_up (k_upto (k_min v1) K i) i (k_min v1 ((k_upto (k_min v1) K i) i))) P) := hD
      rw [k_upto_i, k_upto_s] at hP hD
      refine lv_iload_n hx hb dX1_runRow_22 rfl (lv_at hl 3 rfl) ?_
      refine lv_aload_n hx hb dX1_runRow_23 rfl (lv_at hl 1 rfl) ?_
      refine lv_iload hx hb dX1_runRow_24 (lv_at hl 4 rfl) ?_
      refine cu_aaldK hi hx hb hK hP dX1_runRow_26 ?_
      refine va_getN (host := RX1) (D := D) (ci := 0) (v := .int (((k_upto (k_min v1) K (i + 1)) i) 8)) (C := RX0) (T := TX0) (N := 14) hx hb hts hiX0 hown hK hP (3 + i) (cu_cw_K hi) rfl 13 (by decide) (va_Nw.use rfl (hG.2.2.1 (114, "latestCalls", "I") (by decide +kernel))) (fun _ h9 => h9) rfl dX1_runRow_27 ?_
      refine cu_top (x' := k_min v1 (K i) 8) (by simp [k_upto]) ?_
      refine lv_iadd hx hb dX1_runRow_30 ?_
      refine lv_istore_n (lv' := [(3, .int ((k_sum (fun c => k_min v1 (K c) 8) i) + (k_min v1 (K i) 8))), (0, .ref (a 0)), (1, .ref (a 1)), (2, .int v1), (4, .int (nI i))]) hx hb dX1_runRow_31 rfl hl (by decide) rfl (fun ls hl => ?_)
      refine lv_iinc (v := (nI (i + 1))) (lv' := [(4, .int (nI (i + 1))), (3, .int ((k_sum (fun c => k_min v1 (K c) 8) i) + (k_min v1 (K i) 8))), (0, .ref (a 0)), (1, .ref (a 1)), (2, .int v1)]) hx hb dX1_runRow_32 hl (k := 4) rfl (nI_1 i) (by decide) rfl (fun ls hl => ?_)
      refine lv_goto (tgt := 5) hx hb dX1_runRow_35 (by decide) ?_
      exact ih (i + 1) (by omega) _ _ _ hP hD hS (lv_sub hl [2, 3, 4, 1, 0] rfl)
  exact loop N 0 (by omega) _ _ _ hP hD hS (lv_sub hl [2, 3, 4, 1, 0] rfl)

set_option maxHeartbeats 4000000 in
set_option maxRecDepth 100000 in
theorem m_X1_sumOf (l : Launch) (D : va_G) (C : Nat → ClassId) (a : Nat → Nat) (N : Nat) (hN : N ≤ 10) (mn : Int32) (K P : Nat → Nat → Int32) (v1 : Int32) : cu_I l D C yX1_sumOf wsX1_sumOf { frames := 3, cells := 0, slots := 0, locals := 64 } [.ref (a 0), .ref (a 1), .int v1] (cu_cw C a (nI N) mn K P) (cu_cw C a (nI N) mn K P) (k_all N K v1) 0 0 := by
  refine cu_openI (cc := cX1_sumOf) (maxL := 5) (ty := .int) (own := RX1) (by decide) rfl rfl (Nat.le_of_ble_eq_true rfl) ?_
  intro p e s m args below meth c A Z H0 ls e0 hx hb hml hts hown hnm hG hP hD hS hA hl fin
  have hK := hG.1
  have hl : lv_has ls 5 [(0, .ref (a 0)), (1, .ref (a 1)), (2, .int v1)] := hl
  have hiX1 : ∀ w ∈ wsX10, w ∈ wsX1_sumOf := by decide +kernel
  refine lv_iconst (v := 0) hx hb dX1_sumOf_0 (by decide) ?_
  refine lv_istore_n (lv' := [(3, .int 0), (0, .ref (a 0)), (1, .ref (a 1)), (2, .int v1)]) hx hb dX1_sumOf_1 rfl hl (by decide) rfl (fun ls hl => ?_)
  refine lv_iconst (v := 0) hx hb dX1_sumOf_2 (by decide) ?_
  refine lv_istore (lv' := [(4, .int 0), (3, .int 0), (0, .ref (a 0)), (1, .ref (a 1)), (2, .int v1)]) hx hb dX1_sumOf_3 hl (by decide) rfl (fun ls hl => ?_)
  have loop : ∀ (j : Nat), ∀ (i : Nat), i + j = N → ∀ (H : Heap) (locs : List Loc) (ls : Array Slot), va_P D vwCl (cu_cw C a (nI N) mn K P) H → va_D A (cu_cw C a (nI N) mn K P) → va_S A H0 H locs → lv_has ls 5 [(0, .ref (a 0)), (1, .ref (a 1)), (2, .int v1), (3, .int (k_sum (fun c => k_read (K c) v1) i)), (4, .int (nI i))] → W p l e { frames := 3, cells := 0, slots := 0, locals := 64 } s m args below meth c H locs 0 0 Z (F0 m 5 ls []) := by
    intro j
    induction j with
    | zero =>
      intro i hj H locs ls hP hD hS hl
      have eN : i = N := by omega
      refine lv_iload hx hb dX1_sumOf_5 (lv_at hl 4 rfl) ?_
      refine lv_aload_n hx hb dX1_sumOf_7 rfl (lv_at hl 0 rfl) ?_
      refine va_get (D := D) (ci := 1) (v := .int (nI N)) (C := RX1) (T := TX1) (N := 4) hx hb hts hiX1 hown hK hP 0 rfl rfl 2 (by decide) (hts (.fieldLink RX1 19 "CuckooShop" "present" "I") (by decide +kernel)) (fun _ h9 => h9) rfl dX1_sumOf_8 ?_
      refine lv_icmp_ge (tgt := 31) hx hb dX1_sumOf_11 (by decide) (fun c_11 => ?_) (fun c_11 => absurd (nI_le (a := N) (by omega) (by omega)) c_11)
      refine lv_iload_n hx hb dX1_sumOf_31 rfl (lv_at hl 3 rfl) ?_
      exact fin _ _ _ _ _ rfl (by rw [eN]; rfl) hP hS dX1_sumOf_32
    | succ j ih =>
      intro i hj H locs ls hP hD hS hl
      have hi : i < 10 := by omega
      refine lv_iload hx hb dX1_sumOf_5 (lv_at hl 4 rfl) ?_
      refine lv_aload_n hx hb dX1_sumOf_7 rfl (lv_at hl 0 rfl) ?_
      refine va_get (D := D) (ci := 1) (v := .int (nI N)) (C := RX1) (T := TX1) (N := 4) hx hb hts hiX1 hown hK hP 0 rfl rfl 2 (by decide) (hts (.fieldLink RX1 19 "CuckooShop" "present" "I") (by decide +kernel)) (fun _ h9 => h9) rfl dX1_sumOf_8 ?_
      refine lv_icmp_ge (tgt := 31) hx hb dX1_sumOf_11 (by decide) (fun c_11 => absurd c_11 (nI_ge (b := N) (by omega) (by omega))) (fun c_11 => ?_)
      refine lv_iload_n hx hb dX1_sumOf_14 rfl (lv_at hl 3 rfl) ?_
      refine lv_aload_n hx hb dX1_sumOf_15 rfl (lv_at hl 1 rfl) ?_
      refine lv_iload hx hb dX1_sumOf_16 (lv_at hl 4 rfl) ?_
      refine cu_aaldK hi hx hb hK hP dX1_sumOf_18 ?_
      refine lv_iload_n hx hb dX1_sumOf_19 rfl (lv_at hl 2 rfl) ?_
      have sp := cu_sp.rd (cu_cw_K (C := C) (a := a) (n := (nI N)) (m := mn) (K := K) (P := P) hi)
      refine cu_callI (va_runVN (As := [.int v1]) (rest := [.int (k_sum (fun c => k_read (K c) v1) i)]) ⟨hx, hb, hml, hown, hts⟩ ((m_X0_reading l D C (a (3 + i)) (K i) v1) H.size) ⟨(va_cnB 1 hts gX1_sumOf_X0_reading_n91 rfl rfl rfl (hG.2.1 (91, yX0_reading) (by decide +kernel)) (hts (.initialized RX0) (by decide +kernel)) (by decide +kernel) ⟨Nat.le_of_ble_eq_true rfl, Nat.le_of_ble_eq_true rfl⟩), hts (.instanceMethod yX0_reading) (by decide +kernel), hts (.selects RX0 yX0_reading yX0_reading) (by decide +kernel)⟩ (cu_preV (ci := 0) sp hG hP hD rfl rfl) rfl rfl hl.1 rfl (lv_room (Nat.le_of_ble_eq_true rfl)) dX1_sumOf_20 ⟨Nat.le_of_ble_eq_true rfl, Nat.le_of_ble_eq_true rfl⟩) sp hP hD hS hA (fun H locs hP hD hS => ?_)
      have hP : va_P D vwCl (cu_cw C a (nI N) mn K P) H := hP
      have hD : va_D A (cu_cw C a (nI N) mn K P) := hD
      refine lv_iadd hx hb dX1_sumOf_23 ?_
      refine lv_istore_n (lv' := [(3, .int ((k_sum (fun c => k_read (K c) v1) i) + (k_read (K i) v1))), (0, .ref (a 0)), (1, .ref (a 1)), (2, .int v1), (4, .int (nI i))]) hx hb dX1_sumOf_24 rfl hl (by decide) rfl (fun ls hl => ?_)
      refine lv_iinc (v := (nI (i + 1))) (lv' := [(4, .int (nI (i + 1))), (3, .int ((k_sum (fun c => k_read (K c) v1) i) + (k_read (K i) v1))), (0, .ref (a 0)), (1, .ref (a 1)), (2, .int v1)]) hx hb dX1_sumOf_25 hl (k := 4) rfl (nI_1 i) (by decide) rfl (fun ls hl => ?_)
      refine lv_goto (tgt := 5) hx hb dX1_sumOf_28 (by decide) ?_
      exact ih (i + 1) (by omega) _ _ _ hP hD hS (lv_sub hl [2, 3, 4, 1, 0] rfl)
  exact loop N 0 (by omega) _ _ _ hP hD hS (lv_sub hl [2, 3, 4, 1, 0] rfl)

set_option maxHeartbeats 4000000 in
set_option maxRecDepth 100000 in
theorem m_X1_offOfAll (l : Launch) (D : va_G) (C : Nat → ClassId) (a : Nat → Nat) (N : Nat) (hN : N ≤ 10) (mn : Int32) (K P : Nat → Nat → Int32) (v1 : Int32) : cu_I l D C yX1_offOfAll wsX1_offOfAll { frames := 3, cells := 0, slots := 0, locals := 64 } [.ref (a 0), .ref (a 1), .int v1] (cu_cw C a (nI N) mn K P) (cu_cw C a (nI N) mn K P) (k_offs N K v1) 0 0 := by
  refine cu_openI (cc := cX1_offOfAll) (maxL := 5) (ty := .int) (own := RX1) (by decide) rfl rfl (Nat.le_of_ble_eq_true rfl) ?_
  intro p e s m args below meth c A Z H0 ls e0 hx hb hml hts hown hnm hG hP hD hS hA hl fin
  have hK := hG.1
  have hl : lv_has ls 5 [(0, .ref (a 0)), (1, .ref (a 1)), (2, .int v1)] := hl
  have hiX1 : ∀ w ∈ wsX10, w ∈ wsX1_offOfAll := by decide +kernel
  refine lv_iconst (v := 0) hx hb dX1_offOfAll_0 (by decide) ?_
  refine lv_istore_n (lv' := [(3, .int 0), (0, .ref (a 0)), (1, .ref (a 1)), (2, .int v1)]) hx hb dX1_offOfAll_1 rfl hl (by decide) rfl (fun ls hl => ?_)
  refine lv_iconst (v := 0) hx hb dX1_offOfAll_2 (by decide) ?_
  refine lv_istore (lv' := [(4, .int 0), (3, .int 0), (0, .ref (a 0)), (1, .ref (a 1)), (2, .int v1)]) hx hb dX1_offOfAll_3 hl (by decide) rfl (fun ls hl => ?_)
  have loop : ∀ (j : Nat), ∀ (i : Nat), i + j = N → ∀ (H : Heap) (locs : List Loc) (ls : Array Slot), va_P D vwCl (cu_cw C a (nI N) mn K P) H → va_D A (cu_cw C a (nI N) mn K P) → va_S A H0 H locs → lv_has ls 5 [(0, .ref (a 0)), (1, .ref (a 1)), (2, .int v1), (3, .int (k_sum (fun c => k_abs (k_off (K c) v1)) i)), (4, .int (nI i))] → W p l e { frames := 3, cells := 0, slots := 0, locals := 64 } s m args below meth c H locs 0 0 Z (F0 m 5 ls []) := by
    intro j
    induction j with
    | zero =>
      intro i hj H locs ls hP hD hS hl
      have eN : i = N := by omega
      refine lv_iload hx hb dX1_offOfAll_5 (lv_at hl 4 rfl) ?_
      refine lv_aload_n hx hb dX1_offOfAll_7 rfl (lv_at hl 0 rfl) ?_
      refine va_get (D := D) (ci := 1) (v := .int (nI N)) (C := RX1) (T := TX1) (N := 4) hx hb hts hiX1 hown hK hP 0 rfl rfl 2 (by decide) (hts (.fieldLink RX1 19 "CuckooShop" "present" "I") (by decide +kernel)) (fun _ h9 => h9) rfl dX1_offOfAll_8 ?_
      refine lv_icmp_ge (tgt := 34) hx hb dX1_offOfAll_11 (by decide) (fun c_11 => ?_) (fun c_11 => absurd (nI_le (a := N) (by omega) (by omega)) c_11)
      refine lv_iload_n hx hb dX1_offOfAll_34 rfl (lv_at hl 3 rfl) ?_
      exact fin _ _ _ _ _ rfl (by rw [eN]; rfl) hP hS dX1_offOfAll_35
    | succ j ih =>
      intro i hj H locs ls hP hD hS hl
      have hi : i < 10 := by omega
      refine lv_iload hx hb dX1_offOfAll_5 (lv_at hl 4 rfl) ?_
      refine lv_aload_n hx hb dX1_offOfAll_7 rfl (lv_at hl 0 rfl) ?_
      refine va_get (D := D) (ci := 1) (v := .int (nI N)) (C := RX1) (T := TX1) (N := 4) hx hb hts hiX1 hown hK hP 0 rfl rfl 2 (by decide) (hts (.fieldLink RX1 19 "CuckooShop" "present" "I") (by decide +kernel)) (fun _ h9 => h9) rfl dX1_offOfAll_8 ?_
      refine lv_icmp_ge (tgt := 34) hx hb dX1_offOfAll_11 (by decide) (fun c_11 => absurd c_11 (nI_ge (b := N) (by omega) (by omega))) (fun c_11 => ?_)
      refine lv_iload_n hx hb dX1_offOfAll_14 rfl (lv_at hl 3 rfl) ?_
      refine lv_aload_n hx hb dX1_offOfAll_15 rfl (lv_at hl 1 rfl) ?_
      refine lv_iload hx hb dX1_offOfAll_16 (lv_at hl 4 rfl) ?_
      refine cu_aaldK hi hx hb hK hP dX1_offOfAll_18 ?_
      refine lv_iload_n hx hb dX1_offOfAll_19 rfl (lv_at hl 2 rfl) ?_
      have sp := cu_sp.rd (cu_cw_K (C := C) (a := a) (n := (nI N)) (m := mn) (K := K) (P := P) hi)
      refine cu_callI (va_runS (As := [.ref (a (3 + i)), .int v1]) (rest := [.int (k_sum (fun c => k_abs (k_off (K c) v1)) i)]) ⟨hx, hb, hml, hown, hts⟩ ((m_X1_offOf l D C (a (3 + i)) (K i) v1) H.size) (va_cwS 2 hts gX1_offOfAll_X1_offOf rfl rfl rfl (by decide +kernel) ⟨Nat.le_of_ble_eq_true rfl, Nat.le_of_ble_eq_true rfl⟩) (cu_preS sp hG hP hD) rfl rfl hl.1 rfl (lv_room (Nat.le_of_ble_eq_true rfl)) dX1_offOfAll_20 ⟨Nat.le_of_ble_eq_true rfl, Nat.le_of_ble_eq_true rfl⟩) sp hP hD hS hA (fun H locs hP hD hS => ?_)
      refine va_mabs hx hb (hml.trans hl.1.symm) hown (hts (.methodLink RX1 166 Lib.Math.abs.name) (by decide +kernel)) (hts (.static Lib.Math.abs.name) (by decide +kernel)) (hts (.initialized "java/lang/Math") (by decide +kernel)) (hts (.code Lib.Math.abs.name Lib.Math.abs.code 1 (some .int)) (by decide +kernel)) (Nat.le_of_ble_eq_true rfl) (Nat.le_of_ble_eq_true rfl) (Nat.zero_le _) (Nat.zero_le _) dX1_offOfAll_23 ?_
      refine lv_iadd hx hb dX1_offOfAll_26 ?_
      refine lv_istore_n (lv' := [(3, .int ((k_sum (fun c => k_abs (k_off (K c) v1)) i) + (if 0 ≤ (k_off (K i) v1) then (k_off (K i) v1) else 0 - (k_off (K i) v1)))), (0, .ref (a 0)), (1, .ref (a 1)), (2, .int v1), (4, .int (nI i))]) hx hb dX1_offOfAll_27 rfl hl (by decide) rfl (fun ls hl => ?_)
      refine lv_iinc (v := (nI (i + 1))) (lv' := [(4, .int (nI (i + 1))), (3, .int ((k_sum (fun c => k_abs (k_off (K c) v1)) i) + (if 0 ≤ (k_off (K i) v1) then (k_off (K i) v1) else 0 - (k_off (K i) v1)))), (0, .ref (a 0)), (1, .ref (a 1)), (2, .int v1)]) hx hb dX1_offOfAll_28 hl (k := 4) rfl (nI_1 i) (by decide) rfl (fun ls hl => ?_)
      refine lv_goto (tgt := 5) hx hb dX1_offOfAll_31 (by decide) ?_
      exact ih (i + 1) (by omega) _ _ _ hP hD hS (lv_sub hl [2, 3, 4, 1, 0] rfl)
  exact loop N 0 (by omega) _ _ _ hP hD hS (lv_sub hl [2, 3, 4, 1, 0] rfl)

set_option maxHeartbeats 4000000 in
set_option maxRecDepth 100000 in
theorem m_X1_runRowP (l : Launch) (D : va_G) (C : Nat → ClassId) (a : Nat → Nat) (N : Nat) (hN : N ≤ 10) (mn : Int32) (K P : Nat → Nat → Int32) (v1 : Int32) : cu_I l D C yX1_runRow wsX1_runRow { frames := 4, cells := 0, slots := 0, locals := 86 } [.ref (a 0), .ref (a 2), .int v1] (cu_cw C a (nI N) mn K P) (cu_cw C a (nI N) mn K (k_upto (k_min v1) P N)) (k_lat N v1 P) 0 0 := by
  refine cu_openI (cc := cX1_runRow) (maxL := 5) (ty := .int) (own := RX1) (by decide) rfl rfl (Nat.le_of_ble_eq_true rfl) ?_
  intro p e s m args below meth c A Z H0 ls e0 hx hb hml hts hown hnm hG hP hD hS hA hl fin
  have hK := hG.1
  have hl : lv_has ls 5 [(0, .ref (a 0)), (1, .ref (a 2)), (2, .int v1)] := hl
  have hiX0 : ∀ w ∈ wsX00, w ∈ wsX1_runRow := by decide +kernel
  have hiX1 : ∀ w ∈ wsX10, w ∈ wsX1_runRow := by decide +kernel
  refine lv_iconst (v := 0) hx hb dX1_runRow_0 (by decide) ?_
  refine lv_istore_n (lv' := [(3, .int 0), (0, .ref (a 0)), (1, .ref (a 2)), (2, .int v1)]) hx hb dX1_runRow_1 rfl hl (by decide) rfl (fun ls hl => ?_)
  refine lv_iconst (v := 0) hx hb dX1_runRow_2 (by decide) ?_
  refine lv_istore (lv' := [(4, .int 0), (3, .int 0), (0, .ref (a 0)), (1, .ref (a 2)), (2, .int v1)]) hx hb dX1_runRow_3 hl (by decide) rfl (fun ls hl => ?_)
  rw [← k_upto_0 (g := k_min v1) (K := P)] at hP hD
  have loop : ∀ (j : Nat), ∀ (i : Nat), i + j = N → ∀ (H : Heap) (locs : List Loc) (ls : Array Slot), va_P D vwCl (cu_cw C a (nI N) mn K (k_upto (k_min v1) P i)) H → va_D A (cu_cw C a (nI N) mn K (k_upto (k_min v1) P i)) → va_S A H0 H locs → lv_has ls 5 [(0, .ref (a 0)), (1, .ref (a 2)), (2, .int v1), (3, .int (k_sum (fun c => k_min v1 (P c) 8) i)), (4, .int (nI i))] → W p l e { frames := 4, cells := 0, slots := 0, locals := 86 } s m args below meth c H locs 0 0 Z (F0 m 5 ls []) := by
    intro j
    induction j with
    | zero =>
      intro i hj H locs ls hP hD hS hl
      have eN : i = N := by omega
      refine lv_iload hx hb dX1_runRow_5 (lv_at hl 4 rfl) ?_
      refine lv_aload_n hx hb dX1_runRow_7 rfl (lv_at hl 0 rfl) ?_
      refine va_get (D := D) (ci := 1) (v := .int (nI N)) (C := RX1) (T := TX1) (N := 4) hx hb hts hiX1 hown hK hP 0 rfl rfl 2 (by decide) (hts (.fieldLink RX1 19 "CuckooShop" "present" "I") (by decide +kernel)) (fun _ h9 => h9) rfl dX1_runRow_8 ?_
      refine lv_icmp_ge (tgt := 38) hx hb dX1_runRow_11 (by decide) (fun c_11 => ?_) (fun c_11 => absurd (nI_le (a := N) (by omega) (by omega)) c_11)
      refine lv_iload_n hx hb dX1_runRow_38 rfl (lv_at hl 3 rfl) ?_
      exact fin _ _ _ _ _ rfl (by rw [eN]; rfl) (by rw [eN] at hP; exact hP) hS dX1_runRow_39
    | succ j ih =>
      intro i hj H locs ls hP hD hS hl
      have hi : i < 10 := by omega
      refine lv_iload hx hb dX1_runRow_5 (lv_at hl 4 rfl) ?_
      refine lv_aload_n hx hb dX1_runRow_7 rfl (lv_at hl 0 rfl) ?_
      refine va_get (D := D) (ci := 1) (v := .int (nI N)) (C := RX1) (T := TX1) (N := 4) hx hb hts hiX1 hown hK hP 0 rfl rfl 2 (by decide) (hts (.fieldLink RX1 19 "CuckooShop" "present" "I") (by decide +kernel)) (fun _ h9 => h9) rfl dX1_runRow_8 ?_
      refine lv_icmp_ge (tgt := 38) hx hb dX1_runRow_11 (by decide) (fun c_11 => absurd c_11 (nI_ge (b := N) (by omega) (by omega))) (fun c_11 => ?_)
      refine lv_aload_n hx hb dX1_runRow_14 rfl (lv_at hl 1 rfl) ?_
      refine lv_iload hx hb dX1_runRow_15 (lv_at hl 4 rfl) ?_
      refine cu_aaldP hi hx hb hK hP dX1_runRow_17 ?_
      refine lv_iload_n hx hb dX1_runRow_18 rfl (lv_at hl 2 rfl) ?_
      have sp := cu_spP (C := C) (a := a) (n := (nI N)) (m := mn) (K := K) (P := (k_upto (k_min v1) P i)) hi (k_min v1 ((k_upto (k_min v1) P i) i))
      refine cu_callV (va_runVN (As := [.int v1]) (rest := []) ⟨hx, hb, hml, hown, hts⟩ ((m_X0_runMinute l D C (a (13 + i)) ((k_upto (k_min v1) P i) i) v1) H.size) ⟨(va_cnB 1 hts gX1_runRow_X0_runMinute_n111 rfl rfl rfl (hG.2.1 (111, yX0_runMinute) (by decide +kernel)) (hts (.initialized RX0) (by decide +kernel)) (by decide +kernel) ⟨Nat.le_of_ble_eq_true rfl, Nat.le_of_ble_eq_true rfl⟩), hts (.instanceMethod yX0_runMinute) (by decide +kernel), hts (.selects RX0 yX0_runMinute yX0_runMinute) (by decide +kernel)⟩ (cu_preV (ci := 0) sp hG hP hD rfl rfl) rfl rfl hl.1 rfl (lv_room (Nat.le_of_ble_eq_true rfl)) dX1_runRow_19 ⟨Nat.le_of_ble_eq_true rfl, Nat.le_of_ble_eq_true rfl⟩) sp hP hD hS hA (fun H locs hP hD hS => ?_)
      have hP : va_P D vwCl (cu_cw C a (nI N) mn K (va_up (k_upto (k_min v1) P i) i (k_min v1 ((k_upto (k_min v1) P i) i)))) H := hP
      have hD : va_D A (cu_cw C a (nI N) mn K (va_up (k_upto (k_min v1) P i) i (k_min v1 ((k_upto (k_min v1) P i) i)))) := hD
      rw [k_upto_i, k_upto_s] at hP hD
      refine lv_iload_n hx hb dX1_runRow_22 rfl (lv_at hl 3 rfl) ?_
      refine lv_aload_n hx hb dX1_runRow_23 rfl (lv_at hl 1 rfl) ?_
      refine lv_iload hx hb dX1_runRow_24 (lv_at hl 4 rfl) ?_
      refine cu_aaldP hi hx hb hK hP dX1_runRow_26 ?_
      refine va_getN (host := RX1) (D := D) (ci := 0) (v := .int (((k_upto (k_min v1) P (i + 1)) i) 8)) (C := RX0) (T := TX0) (N := 14) hx hb hts hiX0 hown hK hP (13 + i) (cu_cw_P hi) rfl 13 (by decide) (va_Nw.use rfl (hG.2.2.1 (114, "latestCalls", "I") (by decide +kernel))) (fun _ h9 => h9) rfl dX1_runRow_27 ?_
      refine cu_top (x' := k_min v1 (P i) 8) (by simp [k_upto]) ?_
      refine lv_iadd hx hb dX1_runRow_30 ?_
      refine lv_istore_n (lv' := [(3, .int ((k_sum (fun c => k_min v1 (P c) 8) i) + (k_min v1 (P i) 8))), (0, .ref (a 0)), (1, .ref (a 2)), (2, .int v1), (4, .int (nI i))]) hx hb dX1_runRow_31 rfl hl (by decide) rfl (fun ls hl => ?_)
      refine lv_iinc (v := (nI (i + 1))) (lv' := [(4, .int (nI (i + 1))), (3, .int ((k_sum (fun c => k_min v1 (P c) 8) i) + (k_min v1 (P i) 8))), (0, .ref (a 0)), (1, .ref (a 2)), (2, .int v1)]) hx hb dX1_runRow_32 hl (k := 4) rfl (nI_1 i) (by decide) rfl (fun ls hl => ?_)
      refine lv_goto (tgt := 5) hx hb dX1_runRow_35 (by decide) ?_
      exact ih (i + 1) (by omega) _ _ _ hP hD hS (lv_sub hl [2, 3, 4, 1, 0] rfl)
  exact loop N 0 (by omega) _ _ _ hP hD hS (lv_sub hl [2, 3, 4, 1, 0] rfl)

set_option maxHeartbeats 4000000 in
set_option maxRecDepth 100000 in
theorem m_X1_sumOfP (l : Launch) (D : va_G) (C : Nat → ClassId) (a : Nat → Nat) (N : Nat) (hN : N ≤ 10) (mn : Int32) (K P : Nat → Nat → Int32) (v1 : Int32) : cu_I l D C yX1_sumOf wsX1_sumOf { frames := 3, cells := 0, slots := 0, locals := 64 } [.ref (a 0), .ref (a 2), .int v1] (cu_cw C a (nI N) mn K P) (cu_cw C a (nI N) mn K P) (k_all N P v1) 0 0 := by
  refine cu_openI (cc := cX1_sumOf) (maxL := 5) (ty := .int) (own := RX1) (by decide) rfl rfl (Nat.le_of_ble_eq_true rfl) ?_
  intro p e s m args below meth c A Z H0 ls e0 hx hb hml hts hown hnm hG hP hD hS hA hl fin
  have hK := hG.1
  have hl : lv_has ls 5 [(0, .ref (a 0)), (1, .ref (a 2)), (2, .int v1)] := hl
  have hiX1 : ∀ w ∈ wsX10, w ∈ wsX1_sumOf := by decide +kernel
  refine lv_iconst (v := 0) hx hb dX1_sumOf_0 (by decide) ?_
  refine lv_istore_n (lv' := [(3, .int 0), (0, .ref (a 0)), (1, .ref (a 2)), (2, .int v1)]) hx hb dX1_sumOf_1 rfl hl (by decide) rfl (fun ls hl => ?_)
  refine lv_iconst (v := 0) hx hb dX1_sumOf_2 (by decide) ?_
  refine lv_istore (lv' := [(4, .int 0), (3, .int 0), (0, .ref (a 0)), (1, .ref (a 2)), (2, .int v1)]) hx hb dX1_sumOf_3 hl (by decide) rfl (fun ls hl => ?_)
  have loop : ∀ (j : Nat), ∀ (i : Nat), i + j = N → ∀ (H : Heap) (locs : List Loc) (ls : Array Slot), va_P D vwCl (cu_cw C a (nI N) mn K P) H → va_D A (cu_cw C a (nI N) mn K P) → va_S A H0 H locs → lv_has ls 5 [(0, .ref (a 0)), (1, .ref (a 2)), (2, .int v1), (3, .int (k_sum (fun c => k_read (P c) v1) i)), (4, .int (nI i))] → W p l e { frames := 3, cells := 0, slots := 0, locals := 64 } s m args below meth c H locs 0 0 Z (F0 m 5 ls []) := by
    intro j
    induction j with
    | zero =>
      intro i hj H locs ls hP hD hS hl
      have eN : i = N := by omega
      refine lv_iload hx hb dX1_sumOf_5 (lv_at hl 4 rfl) ?_
      refine lv_aload_n hx hb dX1_sumOf_7 rfl (lv_at hl 0 rfl) ?_
      refine va_get (D := D) (ci := 1) (v := .int (nI N)) (C := RX1) (T := TX1) (N := 4) hx hb hts hiX1 hown hK hP 0 rfl rfl 2 (by decide) (hts (.fieldLink RX1 19 "CuckooShop" "present" "I") (by decide +kernel)) (fun _ h9 => h9) rfl dX1_sumOf_8 ?_
      refine lv_icmp_ge (tgt := 31) hx hb dX1_sumOf_11 (by decide) (fun c_11 => ?_) (fun c_11 => absurd (nI_le (a := N) (by omega) (by omega)) c_11)
      refine lv_iload_n hx hb dX1_sumOf_31 rfl (lv_at hl 3 rfl) ?_
      exact fin _ _ _ _ _ rfl (by rw [eN]; rfl) hP hS dX1_sumOf_32
    | succ j ih =>
      intro i hj H locs ls hP hD hS hl
      have hi : i < 10 := by omega
      refine lv_iload hx hb dX1_sumOf_5 (lv_at hl 4 rfl) ?_
      refine lv_aload_n hx hb dX1_sumOf_7 rfl (lv_at hl 0 rfl) ?_
      refine va_get (D := D) (ci := 1) (v := .int (nI N)) (C := RX1) (T := TX1) (N := 4) hx hb hts hiX1 hown hK hP 0 rfl rfl 2 (by decide) (hts (.fieldLink RX1 19 "CuckooShop" "present" "I") (by decide +kernel)) (fun _ h9 => h9) rfl dX1_sumOf_8 ?_
      refine lv_icmp_ge (tgt := 31) hx hb dX1_sumOf_11 (by decide) (fun c_11 => absurd c_11 (nI_ge (b := N) (by omega) (by omega))) (fun c_11 => ?_)
      refine lv_iload_n hx hb dX1_sumOf_14 rfl (lv_at hl 3 rfl) ?_
      refine lv_aload_n hx hb dX1_sumOf_15 rfl (lv_at hl 1 rfl) ?_
      refine lv_iload hx hb dX1_sumOf_16 (lv_at hl 4 rfl) ?_
      refine cu_aaldP hi hx hb hK hP dX1_sumOf_18 ?_
      refine lv_iload_n hx hb dX1_sumOf_19 rfl (lv_at hl 2 rfl) ?_
      have sp := cu_sp.rd (cu_cw_P (C := C) (a := a) (n := (nI N)) (m := mn) (K := K) (P := P) hi)
      refine cu_callI (va_runVN (As := [.int v1]) (rest := [.int (k_sum (fun c => k_read (P c) v1) i)]) ⟨hx, hb, hml, hown, hts⟩ ((m_X0_reading l D C (a (13 + i)) (P i) v1) H.size) ⟨(va_cnB 1 hts gX1_sumOf_X0_reading_n91 rfl rfl rfl (hG.2.1 (91, yX0_reading) (by decide +kernel)) (hts (.initialized RX0) (by decide +kernel)) (by decide +kernel) ⟨Nat.le_of_ble_eq_true rfl, Nat.le_of_ble_eq_true rfl⟩), hts (.instanceMethod yX0_reading) (by decide +kernel), hts (.selects RX0 yX0_reading yX0_reading) (by decide +kernel)⟩ (cu_preV (ci := 0) sp hG hP hD rfl rfl) rfl rfl hl.1 rfl (lv_room (Nat.le_of_ble_eq_true rfl)) dX1_sumOf_20 ⟨Nat.le_of_ble_eq_true rfl, Nat.le_of_ble_eq_true rfl⟩) sp hP hD hS hA (fun H locs hP hD hS => ?_)
      have hP : va_P D vwCl (cu_cw C a (nI N) mn K P) H := hP
      have hD : va_D A (cu_cw C a (nI N) mn K P) := hD
      refine lv_iadd hx hb dX1_sumOf_23 ?_
      refine lv_istore_n (lv' := [(3, .int ((k_sum (fun c => k_read (P c) v1) i) + (k_read (P i) v1))), (0, .ref (a 0)), (1, .ref (a 2)), (2, .int v1), (4, .int (nI i))]) hx hb dX1_sumOf_24 rfl hl (by decide) rfl (fun ls hl => ?_)
      refine lv_iinc (v := (nI (i + 1))) (lv' := [(4, .int (nI (i + 1))), (3, .int ((k_sum (fun c => k_read (P c) v1) i) + (k_read (P i) v1))), (0, .ref (a 0)), (1, .ref (a 2)), (2, .int v1)]) hx hb dX1_sumOf_25 hl (k := 4) rfl (nI_1 i) (by decide) rfl (fun ls hl => ?_)
      refine lv_goto (tgt := 5) hx hb dX1_sumOf_28 (by decide) ?_
      exact ih (i + 1) (by omega) _ _ _ hP hD hS (lv_sub hl [2, 3, 4, 1, 0] rfl)
  exact loop N 0 (by omega) _ _ _ hP hD hS (lv_sub hl [2, 3, 4, 1, 0] rfl)

set_option maxHeartbeats 4000000 in
set_option maxRecDepth 100000 in
theorem m_X1_offOfAllP (l : Launch) (D : va_G) (C : Nat → ClassId) (a : Nat → Nat) (N : Nat) (hN : N ≤ 10) (mn : Int32) (K P : Nat → Nat → Int32) (v1 : Int32) : cu_I l D C yX1_offOfAll wsX1_offOfAll { frames := 3, cells := 0, slots := 0, locals := 64 } [.ref (a 0), .ref (a 2), .int v1] (cu_cw C a (nI N) mn K P) (cu_cw C a (nI N) mn K P) (k_offs N P v1) 0 0 := by
  refine cu_openI (cc := cX1_offOfAll) (maxL := 5) (ty := .int) (own := RX1) (by decide) rfl rfl (Nat.le_of_ble_eq_true rfl) ?_
  intro p e s m args below meth c A Z H0 ls e0 hx hb hml hts hown hnm hG hP hD hS hA hl fin
  have hK := hG.1
  have hl : lv_has ls 5 [(0, .ref (a 0)), (1, .ref (a 2)), (2, .int v1)] := hl
  have hiX1 : ∀ w ∈ wsX10, w ∈ wsX1_offOfAll := by decide +kernel
  refine lv_iconst (v := 0) hx hb dX1_offOfAll_0 (by decide) ?_
  refine lv_istore_n (lv' := [(3, .int 0), (0, .ref (a 0)), (1, .ref (a 2)), (2, .int v1)]) hx hb dX1_offOfAll_1 rfl hl (by decide) rfl (fun ls hl => ?_)
  refine lv_iconst (v := 0) hx hb dX1_offOfAll_2 (by decide) ?_
  refine lv_istore (lv' := [(4, .int 0), (3, .int 0), (0, .ref (a 0)), (1, .ref (a 2)), (2, .int v1)]) hx hb dX1_offOfAll_3 hl (by decide) rfl (fun ls hl => ?_)
  have loop : ∀ (j : Nat), ∀ (i : Nat), i + j = N → ∀ (H : Heap) (locs : List Loc) (ls : Array Slot), va_P D vwCl (cu_cw C a (nI N) mn K P) H → va_D A (cu_cw C a (nI N) mn K P) → va_S A H0 H locs → lv_has ls 5 [(0, .ref (a 0)), (1, .ref (a 2)), (2, .int v1), (3, .int (k_sum (fun c => k_abs (k_off (P c) v1)) i)), (4, .int (nI i))] → W p l e { frames := 3, cells := 0, slots := 0, locals := 64 } s m args below meth c H locs 0 0 Z (F0 m 5 ls []) := by
    intro j
    induction j with
    | zero =>
      intro i hj H locs ls hP hD hS hl
      have eN : i = N := by omega
      refine lv_iload hx hb dX1_offOfAll_5 (lv_at hl 4 rfl) ?_
      refine lv_aload_n hx hb dX1_offOfAll_7 rfl (lv_at hl 0 rfl) ?_
      refine va_get (D := D) (ci := 1) (v := .int (nI N)) (C := RX1) (T := TX1) (N := 4) hx hb hts hiX1 hown hK hP 0 rfl rfl 2 (by decide) (hts (.fieldLink RX1 19 "CuckooShop" "present" "I") (by decide +kernel)) (fun _ h9 => h9) rfl dX1_offOfAll_8 ?_
      refine lv_icmp_ge (tgt := 34) hx hb dX1_offOfAll_11 (by decide) (fun c_11 => ?_) (fun c_11 => absurd (nI_le (a := N) (by omega) (by omega)) c_11)
      refine lv_iload_n hx hb dX1_offOfAll_34 rfl (lv_at hl 3 rfl) ?_
      exact fin _ _ _ _ _ rfl (by rw [eN]; rfl) hP hS dX1_offOfAll_35
    | succ j ih =>
      intro i hj H locs ls hP hD hS hl
      have hi : i < 10 := by omega
      refine lv_iload hx hb dX1_offOfAll_5 (lv_at hl 4 rfl) ?_
      refine lv_aload_n hx hb dX1_offOfAll_7 rfl (lv_at hl 0 rfl) ?_
      refine va_get (D := D) (ci := 1) (v := .int (nI N)) (C := RX1) (T := TX1) (N := 4) hx hb hts hiX1 hown hK hP 0 rfl rfl 2 (by decide) (hts (.fieldLink RX1 19 "CuckooShop" "present" "I") (by decide +kernel)) (fun _ h9 => h9) rfl dX1_offOfAll_8 ?_
      refine lv_icmp_ge (tgt := 34) hx hb dX1_offOfAll_11 (by decide) (fun c_11 => absurd c_11 (nI_ge (b := N) (by omega) (by omega))) (fun c_11 => ?_)
      refine lv_iload_n hx hb dX1_offOfAll_14 rfl (lv_at hl 3 rfl) ?_
      refine lv_aload_n hx hb dX1_offOfAll_15 rfl (lv_at hl 1 rfl) ?_
      refine lv_iload hx hb dX1_offOfAll_16 (lv_at hl 4 rfl) ?_
      refine cu_aaldP hi hx hb hK hP dX1_offOfAll_18 ?_
      refine lv_iload_n hx hb dX1_offOfAll_19 rfl (lv_at hl 2 rfl) ?_
      have sp := cu_sp.rd (cu_cw_P (C := C) (a := a) (n := (nI N)) (m := mn) (K := K) (P := P) hi)
      refine cu_callI (va_runS (As := [.ref (a (13 + i)), .int v1]) (rest := [.int (k_sum (fun c => k_abs (k_off (P c) v1)) i)]) ⟨hx, hb, hml, hown, hts⟩ ((m_X1_offOf l D C (a (13 + i)) (P i) v1) H.size) (va_cwS 2 hts gX1_offOfAll_X1_offOf rfl rfl rfl (by decide +kernel) ⟨Nat.le_of_ble_eq_true rfl, Nat.le_of_ble_eq_true rfl⟩) (cu_preS sp hG hP hD) rfl rfl hl.1 rfl (lv_room (Nat.le_of_ble_eq_true rfl)) dX1_offOfAll_20 ⟨Nat.le_of_ble_eq_true rfl, Nat.le_of_ble_eq_true rfl⟩) sp hP hD hS hA (fun H locs hP hD hS => ?_)
      refine va_mabs hx hb (hml.trans hl.1.symm) hown (hts (.methodLink RX1 166 Lib.Math.abs.name) (by decide +kernel)) (hts (.static Lib.Math.abs.name) (by decide +kernel)) (hts (.initialized "java/lang/Math") (by decide +kernel)) (hts (.code Lib.Math.abs.name Lib.Math.abs.code 1 (some .int)) (by decide +kernel)) (Nat.le_of_ble_eq_true rfl) (Nat.le_of_ble_eq_true rfl) (Nat.zero_le _) (Nat.zero_le _) dX1_offOfAll_23 ?_
      refine lv_iadd hx hb dX1_offOfAll_26 ?_
      refine lv_istore_n (lv' := [(3, .int ((k_sum (fun c => k_abs (k_off (P c) v1)) i) + (if 0 ≤ (k_off (P i) v1) then (k_off (P i) v1) else 0 - (k_off (P i) v1)))), (0, .ref (a 0)), (1, .ref (a 2)), (2, .int v1), (4, .int (nI i))]) hx hb dX1_offOfAll_27 rfl hl (by decide) rfl (fun ls hl => ?_)
      refine lv_iinc (v := (nI (i + 1))) (lv' := [(4, .int (nI (i + 1))), (3, .int ((k_sum (fun c => k_abs (k_off (P c) v1)) i) + (if 0 ≤ (k_off (P i) v1) then (k_off (P i) v1) else 0 - (k_off (P i) v1)))), (0, .ref (a 0)), (1, .ref (a 2)), (2, .int v1)]) hx hb dX1_offOfAll_28 hl (k := 4) rfl (nI_1 i) (by decide) rfl (fun ls hl => ?_)
      refine lv_goto (tgt := 5) hx hb dX1_offOfAll_31 (by decide) ?_
      exact ih (i + 1) (by omega) _ _ _ hP hD hS (lv_sub hl [2, 3, 4, 1, 0] rfl)
  exact loop N 0 (by omega) _ _ _ hP hD hS (lv_sub hl [2, 3, 4, 1, 0] rfl)

set_option maxHeartbeats 4000000 in
set_option maxRecDepth 100000 in
theorem m_X1_copyClocks (l : Launch) (D : va_G) (C : Nat → ClassId) (a : Nat → Nat) (N : Nat) (hN : N ≤ 10) (mn : Int32) (K P : Nat → Nat → Int32) (h5 : ∀ c, c < N → K c 5 = 0 ∨ K c 5 = 1) : cu_V l D C yX1_copyClocks wsX1_copyClocks { frames := 1, cells := 0, slots := 0, locals := 21 } [.ref (a 0)] (cu_cw C a (nI N) mn K P) (cu_cw C a (nI N) mn K (k_cpy K P N)) 0 0 := by
  refine cu_openV (cc := cX1_copyClocks) (maxL := 2) (own := RX1) (by decide) rfl rfl (Nat.le_of_ble_eq_true rfl) ?_
  intro p e s m args below meth c A Z H0 ls e0 hx hb hml hts hown hnm hG hP hD hS hA hl fin
  have hK := hG.1
  have hl : lv_has ls 2 [(0, .ref (a 0))] := hl
  have hiX1 : ∀ w ∈ wsX10, w ∈ wsX1_copyClocks := by decide +kernel
  refine lv_iconst (v := 0) hx hb dX1_copyClocks_0 (by decide) ?_
  refine lv_istore_n (lv' := [(1, .int 0), (0, .ref (a 0))]) hx hb dX1_copyClocks_1 rfl hl (by decide) rfl (fun ls hl => ?_)
  rw [← k_cpy_0 (K := K) (P := P)] at hP hD
  have loop : ∀ (j : Nat), ∀ (i : Nat), i + j = N → ∀ (H : Heap) (locs : List Loc) (ls : Array Slot), va_P D vwCl (cu_cw C a (nI N) mn K (k_cpy K P i)) H → va_D A (cu_cw C a (nI N) mn K (k_cpy K P i)) → va_S A H0 H locs → lv_has ls 2 [(0, .ref (a 0)), (1, .int (nI i))] → W p l e { frames := 1, cells := 0, slots := 0, locals := 21 } s m args below meth c H locs 0 0 Z (F0 m 2 ls []) := by
    intro j
    induction j with
    | zero =>
      intro i hj H locs ls hP hD hS hl
      have eN : i = N := by omega
      refine lv_iload_n hx hb dX1_copyClocks_2 rfl (lv_at hl 1 rfl) ?_
      refine lv_aload_n hx hb dX1_copyClocks_3 rfl (lv_at hl 0 rfl) ?_
      refine va_get (D := D) (ci := 1) (v := .int (nI N)) (C := RX1) (T := TX1) (N := 4) hx hb hts hiX1 hown hK hP 0 rfl rfl 2 (by decide) (hts (.fieldLink RX1 19 "CuckooShop" "present" "I") (by decide +kernel)) (fun _ h9 => h9) rfl dX1_copyClocks_4 ?_
      refine lv_icmp_ge (tgt := 31) hx hb dX1_copyClocks_7 (by decide) (fun c_7 => ?_) (fun c_7 => absurd (nI_le (a := N) (by omega) (by omega)) c_7)
      exact fin _ _ _ _ (by rw [eN] at hP; exact hP) hS dX1_copyClocks_31
    | succ j ih =>
      intro i hj H locs ls hP hD hS hl
      have hi : i < 10 := by omega
      refine lv_iload_n hx hb dX1_copyClocks_2 rfl (lv_at hl 1 rfl) ?_
      refine lv_aload_n hx hb dX1_copyClocks_3 rfl (lv_at hl 0 rfl) ?_
      refine va_get (D := D) (ci := 1) (v := .int (nI N)) (C := RX1) (T := TX1) (N := 4) hx hb hts hiX1 hown hK hP 0 rfl rfl 2 (by decide) (hts (.fieldLink RX1 19 "CuckooShop" "present" "I") (by decide +kernel)) (fun _ h9 => h9) rfl dX1_copyClocks_4 ?_
      refine lv_icmp_ge (tgt := 31) hx hb dX1_copyClocks_7 (by decide) (fun c_7 => absurd c_7 (nI_ge (b := N) (by omega) (by omega))) (fun c_7 => ?_)
      refine lv_aload_n hx hb dX1_copyClocks_10 rfl (lv_at hl 0 rfl) ?_
      refine va_get (D := D) (ci := 1) (v := .ref (a 2)) (C := RX1) (T := TX1) (N := 4) hx hb hts hiX1 hown hK hP 0 rfl rfl 1 (by decide) (hts (.fieldLink RX1 15 "CuckooShop" "copies" "[LCuckooShop$Clock;") (by decide +kernel)) (fun _ h9 => h9) rfl dX1_copyClocks_11 ?_
      refine lv_iload_n hx hb dX1_copyClocks_14 rfl (lv_at hl 1 rfl) ?_
      refine cu_aaldP hi hx hb hK hP dX1_copyClocks_15 ?_
      refine lv_aload_n hx hb dX1_copyClocks_16 rfl (lv_at hl 0 rfl) ?_
      refine va_get (D := D) (ci := 1) (v := .ref (a 1)) (C := RX1) (T := TX1) (N := 4) hx hb hts hiX1 hown hK hP 0 rfl rfl 0 (by decide) (hts (.fieldLink RX1 11 "CuckooShop" "clocks" "[LCuckooShop$Clock;") (by decide +kernel)) (fun _ h9 => h9) rfl dX1_copyClocks_17 ?_
      refine lv_iload_n hx hb dX1_copyClocks_20 rfl (lv_at hl 1 rfl) ?_
      refine cu_aaldK hi hx hb hK hP dX1_copyClocks_21 ?_
      have sp := cu_spC (C := C) (a := a) (n := (nI N)) (m := mn) (K := K) (P := (k_cpy K P i)) hi
      refine cu_callV (va_runVN (As := [.ref (a (3 + i))]) (rest := []) ⟨hx, hb, hml, hown, hts⟩ ((m_X0_copyFrom l D C (a (13 + i)) ((k_cpy K P i) i) (a (3 + i)) (K i) (h5 i (by omega))) H.size) ⟨(va_cnB 1 hts gX1_copyClocks_X0_copyFrom_n107 rfl rfl rfl (hG.2.1 (107, yX0_copyFrom) (by decide +kernel)) (hts (.initialized RX0) (by decide +kernel)) (by decide +kernel) ⟨Nat.le_of_ble_eq_true rfl, Nat.le_of_ble_eq_true rfl⟩), hts (.instanceMethod yX0_copyFrom) (by decide +kernel), hts (.selects RX0 yX0_copyFrom yX0_copyFrom) (by decide +kernel)⟩ (cu_preV (ci := 0) sp hG hP hD rfl rfl) rfl rfl hl.1 rfl (lv_room (Nat.le_of_ble_eq_true rfl)) dX1_copyClocks_22 ⟨Nat.le_of_ble_eq_true rfl, Nat.le_of_ble_eq_true rfl⟩) sp hP hD hS hA (fun H locs hP hD hS => ?_)
      have hP : va_P D vwCl (cu_cw C a (nI N) mn K (va_up (k_cpy K P i) i (K i))) H := hP
      have hD : va_D A (cu_cw C a (nI N) mn K (va_up (k_cpy K P i) i (K i))) := hD
      rw [k_cpy_s] at hP hD
      refine lv_iinc (v := (nI (i + 1))) (lv' := [(1, .int (nI (i + 1))), (0, .ref (a 0))]) hx hb dX1_copyClocks_25 hl (k := 1) rfl (nI_1 i) (by decide) rfl (fun ls hl => ?_)
      refine lv_goto (tgt := 2) hx hb dX1_copyClocks_28 (by decide) ?_
      exact ih (i + 1) (by omega) _ _ _ hP hD hS (lv_sub hl [1, 0] rfl)
  exact loop N 0 (by omega) _ _ _ hP hD hS (lv_sub hl [1, 0] rfl)

set_option maxHeartbeats 4000000 in
set_option maxRecDepth 100000 in
theorem m_X1_trueClocks (l : Launch) (D : va_G) (C : Nat → ClassId) (a : Nat → Nat) (N : Nat) (hN : N ≤ 10) (mn : Int32) (K P : Nat → Nat → Int32) : cu_I l D C yX1_trueClocks wsX1_trueClocks { frames := 3, cells := 0, slots := 0, locals := 64 } [.ref (a 0)] (cu_cw C a (nI N) mn K P) (cu_cw C a (nI N) mn K P) (k_trues N K mn) 0 0 := by
  refine cu_openI (cc := cX1_trueClocks) (maxL := 3) (ty := .int) (own := RX1) (by decide) rfl rfl (Nat.le_of_ble_eq_true rfl) ?_
  intro p e s m args below meth c A Z H0 ls e0 hx hb hml hts hown hnm hG hP hD hS hA hl fin
  have hK := hG.1
  have hl : lv_has ls 3 [(0, .ref (a 0))] := hl
  have hiX1 : ∀ w ∈ wsX10, w ∈ wsX1_trueClocks := by decide +kernel
  refine lv_iconst (v := 0) hx hb dX1_trueClocks_0 (by decide) ?_
  refine lv_istore_n (lv' := [(1, .int 0), (0, .ref (a 0))]) hx hb dX1_trueClocks_1 rfl hl (by decide) rfl (fun ls hl => ?_)
  refine lv_iconst (v := 0) hx hb dX1_trueClocks_2 (by decide) ?_
  refine lv_istore_n (lv' := [(2, .int 0), (1, .int 0), (0, .ref (a 0))]) hx hb dX1_trueClocks_3 rfl hl (by decide) rfl (fun ls hl => ?_)
  have loop : ∀ (j : Nat), ∀ (i : Nat) (x1 : Int32), i + j = N → x1 = k_sum (fun c => if k_off (K c) mn = 0 then 1 else 0) i → ∀ (H : Heap) (locs : List Loc) (ls : Array Slot), va_P D vwCl (cu_cw C a (nI N) mn K P) H → va_D A (cu_cw C a (nI N) mn K P) → va_S A H0 H locs → lv_has ls 3 [(0, .ref (a 0)), (1, .int x1), (2, .int (nI i))] → W p l e { frames := 3, cells := 0, slots := 0, locals := 64 } s m args below meth c H locs 0 0 Z (F0 m 4 ls []) := by
    intro j
    induction j with
    | zero =>
      intro i x1 hj hx1 H locs ls hP hD hS hl
      have eN : i = N := by omega
      refine lv_iload_n hx hb dX1_trueClocks_4 rfl (lv_at hl 2 rfl) ?_
      refine lv_aload_n hx hb dX1_trueClocks_5 rfl (lv_at hl 0 rfl) ?_
      refine va_get (D := D) (ci := 1) (v := .int (nI N)) (C := RX1) (T := TX1) (N := 4) hx hb hts hiX1 hown hK hP 0 rfl rfl 2 (by decide) (hts (.fieldLink RX1 19 "CuckooShop" "present" "I") (by decide +kernel)) (fun _ h9 => h9) rfl dX1_trueClocks_6 ?_
      refine lv_icmp_ge (tgt := 37) hx hb dX1_trueClocks_9 (by decide) (fun c_9 => ?_) (fun c_9 => absurd (nI_le (a := N) (by omega) (by omega)) c_9)
      refine lv_iload_n hx hb dX1_trueClocks_37 rfl (lv_at hl 1 rfl) ?_
      exact fin _ _ _ _ _ rfl (by rw [hx1, eN]; rfl) hP hS dX1_trueClocks_38
    | succ j ih =>
      intro i x1 hj hx1 H locs ls hP hD hS hl
      have hi : i < 10 := by omega
      refine lv_iload_n hx hb dX1_trueClocks_4 rfl (lv_at hl 2 rfl) ?_
      refine lv_aload_n hx hb dX1_trueClocks_5 rfl (lv_at hl 0 rfl) ?_
      refine va_get (D := D) (ci := 1) (v := .int (nI N)) (C := RX1) (T := TX1) (N := 4) hx hb hts hiX1 hown hK hP 0 rfl rfl 2 (by decide) (hts (.fieldLink RX1 19 "CuckooShop" "present" "I") (by decide +kernel)) (fun _ h9 => h9) rfl dX1_trueClocks_6 ?_
      refine lv_icmp_ge (tgt := 37) hx hb dX1_trueClocks_9 (by decide) (fun c_9 => absurd c_9 (nI_ge (b := N) (by omega) (by omega))) (fun c_9 => ?_)
      refine lv_aload_n hx hb dX1_trueClocks_12 rfl (lv_at hl 0 rfl) ?_
      refine va_get (D := D) (ci := 1) (v := .ref (a 1)) (C := RX1) (T := TX1) (N := 4) hx hb hts hiX1 hown hK hP 0 rfl rfl 0 (by decide) (hts (.fieldLink RX1 11 "CuckooShop" "clocks" "[LCuckooShop$Clock;") (by decide +kernel)) (fun _ h9 => h9) rfl dX1_trueClocks_13 ?_
      refine lv_iload_n hx hb dX1_trueClocks_16 rfl (lv_at hl 2 rfl) ?_
      refine cu_aaldK hi hx hb hK hP dX1_trueClocks_17 ?_
      refine lv_aload_n hx hb dX1_trueClocks_18 rfl (lv_at hl 0 rfl) ?_
      refine va_get (D := D) (ci := 1) (v := .int mn) (C := RX1) (T := TX1) (N := 4) hx hb hts hiX1 hown hK hP 0 rfl rfl 3 (by decide) (hts (.fieldLink RX1 23 "CuckooShop" "minute" "I") (by decide +kernel)) (fun _ h9 => h9) rfl dX1_trueClocks_19 ?_
      have sp := cu_sp.rd (cu_cw_K (C := C) (a := a) (n := (nI N)) (m := mn) (K := K) (P := P) hi)
      refine cu_callI (va_runS (As := [.ref (a (3 + i)), .int mn]) (rest := []) ⟨hx, hb, hml, hown, hts⟩ ((m_X1_offOf l D C (a (3 + i)) (K i) mn) H.size) (va_cwS 2 hts gX1_trueClocks_X1_offOf rfl rfl rfl (by decide +kernel) ⟨Nat.le_of_ble_eq_true rfl, Nat.le_of_ble_eq_true rfl⟩) (cu_preS sp hG hP hD) rfl rfl hl.1 rfl (lv_room (Nat.le_of_ble_eq_true rfl)) dX1_trueClocks_22 ⟨Nat.le_of_ble_eq_true rfl, Nat.le_of_ble_eq_true rfl⟩) sp hP hD hS hA (fun H locs hP hD hS => ?_)
      refine lv_if_ne (tgt := 31) hx hb dX1_trueClocks_25 (by decide) (fun c_25 => ?_) (fun c_25 => ?_)
      · refine lv_iinc (v := (nI (i + 1))) (lv' := [(2, .int (nI (i + 1))), (0, .ref (a 0)), (1, .int x1)]) hx hb dX1_trueClocks_31 hl (k := 2) rfl (nI_1 i) (by decide) rfl (fun ls hl => ?_)
        refine lv_goto (tgt := 4) hx hb dX1_trueClocks_34 (by decide) ?_
        exact ih (i + 1) _ (by omega) (by show _ = k_sum _ i + (if k_off (K i) mn = 0 then 1 else 0); rw [if_neg c_25, hx1]; simp) _ _ _ hP hD hS (lv_sub hl [1, 2, 0] rfl)
      · refine lv_iinc (v := (x1 + 1)) (lv' := [(1, .int (x1 + 1)), (0, .ref (a 0)), (2, .int (nI i))]) hx hb dX1_trueClocks_28 hl (k := 1) rfl rfl (by decide) rfl (fun ls hl => ?_)
        refine lv_iinc (v := (nI (i + 1))) (lv' := [(2, .int (nI (i + 1))), (1, .int (x1 + 1)), (0, .ref (a 0))]) hx hb dX1_trueClocks_31 hl (k := 2) rfl (nI_1 i) (by decide) rfl (fun ls hl => ?_)
        refine lv_goto (tgt := 4) hx hb dX1_trueClocks_34 (by decide) ?_
        exact ih (i + 1) _ (by omega) (by show _ = k_sum _ i + (if k_off (K i) mn = 0 then 1 else 0); rw [if_pos c_25, hx1]) _ _ _ hP hD hS (lv_sub hl [2, 1, 0] rfl)
  exact loop N 0 0 (by omega) rfl _ _ _ hP hD hS (lv_sub hl [2, 1, 0] rfl)

set_option maxHeartbeats 4000000 in
set_option maxRecDepth 100000 in
theorem m_X1_tally (l : Launch) (D : va_G) (C : Nat → ClassId) (a : Nat → Nat) (N : Nat) (hN : N ≤ 10) (mn : Int32) (K P : Nat → Nat → Int32) (v1 : Int32) : cu_I l D C yX1_tally wsX1_tally { frames := 4, cells := 0, slots := 0, locals := 88 } [.ref (a 0), .int v1] (cu_cw C a (nI N) mn K P) (cu_cw C a (nI N) mn K P) (k_tally N K mn v1) 0 0 := by
  refine cu_openI (cc := cX1_tally) (maxL := 2) (ty := .int) (own := RX1) (by decide) rfl rfl (Nat.le_of_ble_eq_true rfl) ?_
  intro p e s m args below meth c A Z H0 ls e0 hx hb hml hts hown hnm hG hP hD hS hA hl fin
  have hK := hG.1
  have hl : lv_has ls 2 [(0, .ref (a 0)), (1, .int v1)] := hl
  have hiX1 : ∀ w ∈ wsX10, w ∈ wsX1_tally := by decide +kernel
  refine lv_iload_n hx hb dX1_tally_0 rfl (lv_at hl 1 rfl) ?_
  by_cases s_0 : v1 = 0
  · subst s_0
    refine lv_tableIn (off := 43) (tgt := 44) hx hb dX1_tally_1 (by decide) (by decide) (by decide) (by decide) ?_
    refine lv_aload_n hx hb dX1_tally_44 rfl (lv_at hl 0 rfl) ?_
    refine va_get (D := D) (ci := 1) (v := .int mn) (C := RX1) (T := TX1) (N := 4) hx hb hts hiX1 hown hK hP 0 rfl rfl 3 (by decide) (hts (.fieldLink RX1 23 "CuckooShop" "minute" "I") (by decide +kernel)) (fun _ h9 => h9) rfl dX1_tally_45 ?_
    exact fin _ _ _ _ _ rfl (by simp only [k_tally, reduceIte]) hP hS dX1_tally_48
  by_cases s_1 : v1 = 1
  · subst s_1
    refine lv_tableIn (off := 48) (tgt := 49) hx hb dX1_tally_1 (by decide) (by decide) (by decide) (by decide) ?_
    refine lv_aload_n hx hb dX1_tally_49 rfl (lv_at hl 0 rfl) ?_
    refine va_get (D := D) (ci := 1) (v := .int mn) (C := RX1) (T := TX1) (N := 4) hx hb hts hiX1 hown hK hP 0 rfl rfl 3 (by decide) (hts (.fieldLink RX1 23 "CuckooShop" "minute" "I") (by decide +kernel)) (fun _ h9 => h9) rfl dX1_tally_50 ?_
    have sp := cu_sp.nil (W0 := (cu_cw C a (nI N) mn K P))
    refine cu_callI (va_runS (As := [.int mn]) (rest := []) ⟨hx, hb, hml, hown, hts⟩ ((m_X1_trueTime l D C mn) H0.size) (va_cwS 1 hts gX1_tally_X1_trueTime rfl rfl rfl (by decide +kernel) ⟨Nat.le_of_ble_eq_true rfl, Nat.le_of_ble_eq_true rfl⟩) (cu_preS sp hG hP hD) rfl rfl hl.1 rfl (lv_room (Nat.le_of_ble_eq_true rfl)) dX1_tally_53 ⟨Nat.le_of_ble_eq_true rfl, Nat.le_of_ble_eq_true rfl⟩) sp hP hD hS hA (fun H locs hP hD hS => ?_)
    exact fin _ _ _ _ _ rfl (by simp only [k_tally, if_neg s_0, reduceIte]) hP hS dX1_tally_56
  by_cases s_2 : v1 = 2
  · subst s_2
    refine lv_tableIn (off := 56) (tgt := 57) hx hb dX1_tally_1 (by decide) (by decide) (by decide) (by decide) ?_
    refine lv_aload_n hx hb dX1_tally_57 rfl (lv_at hl 0 rfl) ?_
    refine va_get (D := D) (ci := 1) (v := .int (nI N)) (C := RX1) (T := TX1) (N := 4) hx hb hts hiX1 hown hK hP 0 rfl rfl 2 (by decide) (hts (.fieldLink RX1 19 "CuckooShop" "present" "I") (by decide +kernel)) (fun _ h9 => h9) rfl dX1_tally_58 ?_
    exact fin _ _ _ _ _ rfl (by simp only [k_tally, if_neg s_0, if_neg s_1, reduceIte]) hP hS dX1_tally_61
  by_cases s_3 : v1 = 3
  · subst s_3
    refine lv_tableIn (off := 61) (tgt := 62) hx hb dX1_tally_1 (by decide) (by decide) (by decide) (by decide) ?_
    refine lv_aload_n hx hb dX1_tally_62 rfl (lv_at hl 0 rfl) ?_
    refine lv_aload_n hx hb dX1_tally_63 rfl (lv_at hl 0 rfl) ?_
    refine va_get (D := D) (ci := 1) (v := .ref (a 1)) (C := RX1) (T := TX1) (N := 4) hx hb hts hiX1 hown hK hP 0 rfl rfl 0 (by decide) (hts (.fieldLink RX1 11 "CuckooShop" "clocks" "[LCuckooShop$Clock;") (by decide +kernel)) (fun _ h9 => h9) rfl dX1_tally_64 ?_
    refine lv_iconst (v := 5) hx hb dX1_tally_67 (by decide) ?_
    have sp := cu_sp.all (W0 := (cu_cw C a (nI N) mn K P)) (W1 := (cu_cw C a (nI N) mn K P)) rfl
    refine cu_callI (va_runV (As := [.ref (a 1), .int 5]) (rest := []) ⟨hx, hb, hml, hown, hts⟩ ((m_X1_sumOf l D C a N hN mn K P 5) H0.size) (cwV 2 hts gX1_tally_X1_sumOf rfl rfl rfl (by decide +kernel) ⟨Nat.le_of_ble_eq_true rfl, Nat.le_of_ble_eq_true rfl⟩) (cu_preV (ci := 1) sp hG hP hD rfl rfl) rfl rfl hl.1 rfl (lv_room (Nat.le_of_ble_eq_true rfl)) dX1_tally_68 ⟨Nat.le_of_ble_eq_true rfl, Nat.le_of_ble_eq_true rfl⟩) sp hP hD hS hA (fun H locs hP hD hS => ?_)
    have hP : va_P D vwCl (cu_cw C a (nI N) mn K P) H := hP
    have hD : va_D A (cu_cw C a (nI N) mn K P) := hD
    exact fin _ _ _ _ _ rfl (by simp only [k_tally, if_neg s_0, if_neg s_1, if_neg s_2, reduceIte]) hP hS dX1_tally_71
  by_cases s_4 : v1 = 4
  · subst s_4
    refine lv_tableIn (off := 71) (tgt := 72) hx hb dX1_tally_1 (by decide) (by decide) (by decide) (by decide) ?_
    refine lv_aload_n hx hb dX1_tally_72 rfl (lv_at hl 0 rfl) ?_
    refine lv_aload_n hx hb dX1_tally_73 rfl (lv_at hl 0 rfl) ?_
    refine va_get (D := D) (ci := 1) (v := .ref (a 1)) (C := RX1) (T := TX1) (N := 4) hx hb hts hiX1 hown hK hP 0 rfl rfl 0 (by decide) (hts (.fieldLink RX1 11 "CuckooShop" "clocks" "[LCuckooShop$Clock;") (by decide +kernel)) (fun _ h9 => h9) rfl dX1_tally_74 ?_
    refine lv_bipush (v := 7) hx hb dX1_tally_77 (by decide) ?_
    have sp := cu_sp.all (W0 := (cu_cw C a (nI N) mn K P)) (W1 := (cu_cw C a (nI N) mn K P)) rfl
    refine cu_callI (va_runV (As := [.ref (a 1), .int 7]) (rest := []) ⟨hx, hb, hml, hown, hts⟩ ((m_X1_sumOf l D C a N hN mn K P 7) H0.size) (cwV 2 hts gX1_tally_X1_sumOf rfl rfl rfl (by decide +kernel) ⟨Nat.le_of_ble_eq_true rfl, Nat.le_of_ble_eq_true rfl⟩) (cu_preV (ci := 1) sp hG hP hD rfl rfl) rfl rfl hl.1 rfl (lv_room (Nat.le_of_ble_eq_true rfl)) dX1_tally_79 ⟨Nat.le_of_ble_eq_true rfl, Nat.le_of_ble_eq_true rfl⟩) sp hP hD hS hA (fun H locs hP hD hS => ?_)
    have hP : va_P D vwCl (cu_cw C a (nI N) mn K P) H := hP
    have hD : va_D A (cu_cw C a (nI N) mn K P) := hD
    exact fin _ _ _ _ _ rfl (by simp only [k_tally, if_neg s_0, if_neg s_1, if_neg s_2, if_neg s_3, reduceIte]) hP hS dX1_tally_82
  by_cases s_5 : v1 = 5
  · subst s_5
    refine lv_tableIn (off := 82) (tgt := 83) hx hb dX1_tally_1 (by decide) (by decide) (by decide) (by decide) ?_
    refine lv_aload_n hx hb dX1_tally_83 rfl (lv_at hl 0 rfl) ?_
    refine lv_aload_n hx hb dX1_tally_84 rfl (lv_at hl 0 rfl) ?_
    refine va_get (D := D) (ci := 1) (v := .ref (a 1)) (C := RX1) (T := TX1) (N := 4) hx hb hts hiX1 hown hK hP 0 rfl rfl 0 (by decide) (hts (.fieldLink RX1 11 "CuckooShop" "clocks" "[LCuckooShop$Clock;") (by decide +kernel)) (fun _ h9 => h9) rfl dX1_tally_85 ?_
    refine lv_bipush (v := 9) hx hb dX1_tally_88 (by decide) ?_
    have sp := cu_sp.all (W0 := (cu_cw C a (nI N) mn K P)) (W1 := (cu_cw C a (nI N) mn K P)) rfl
    refine cu_callI (va_runV (As := [.ref (a 1), .int 9]) (rest := []) ⟨hx, hb, hml, hown, hts⟩ ((m_X1_sumOf l D C a N hN mn K P 9) H0.size) (cwV 2 hts gX1_tally_X1_sumOf rfl rfl rfl (by decide +kernel) ⟨Nat.le_of_ble_eq_true rfl, Nat.le_of_ble_eq_true rfl⟩) (cu_preV (ci := 1) sp hG hP hD rfl rfl) rfl rfl hl.1 rfl (lv_room (Nat.le_of_ble_eq_true rfl)) dX1_tally_90 ⟨Nat.le_of_ble_eq_true rfl, Nat.le_of_ble_eq_true rfl⟩) sp hP hD hS hA (fun H locs hP hD hS => ?_)
    have hP : va_P D vwCl (cu_cw C a (nI N) mn K P) H := hP
    have hD : va_D A (cu_cw C a (nI N) mn K P) := hD
    exact fin _ _ _ _ _ rfl (by simp only [k_tally, if_neg s_0, if_neg s_1, if_neg s_2, if_neg s_3, if_neg s_4, reduceIte]) hP hS dX1_tally_93
  by_cases s_6 : v1 = 6
  · subst s_6
    refine lv_tableIn (off := 93) (tgt := 94) hx hb dX1_tally_1 (by decide) (by decide) (by decide) (by decide) ?_
    refine lv_aload_n hx hb dX1_tally_94 rfl (lv_at hl 0 rfl) ?_
    have sp := cu_sp.all (W0 := (cu_cw C a (nI N) mn K P)) (W1 := (cu_cw C a (nI N) mn K P)) rfl
    refine cu_callI (va_runV (As := []) (rest := []) ⟨hx, hb, hml, hown, hts⟩ ((m_X1_trueClocks l D C a N hN mn K P ) H0.size) (cwV 0 hts gX1_tally_X1_trueClocks rfl rfl rfl (by decide +kernel) ⟨Nat.le_of_ble_eq_true rfl, Nat.le_of_ble_eq_true rfl⟩) (cu_preV (ci := 1) sp hG hP hD rfl rfl) rfl rfl hl.1 rfl (lv_room (Nat.le_of_ble_eq_true rfl)) dX1_tally_95 ⟨Nat.le_of_ble_eq_true rfl, Nat.le_of_ble_eq_true rfl⟩) sp hP hD hS hA (fun H locs hP hD hS => ?_)
    have hP : va_P D vwCl (cu_cw C a (nI N) mn K P) H := hP
    have hD : va_D A (cu_cw C a (nI N) mn K P) := hD
    exact fin _ _ _ _ _ rfl (by simp only [k_tally, if_neg s_0, if_neg s_1, if_neg s_2, if_neg s_3, if_neg s_4, if_neg s_5, reduceIte]) hP hS dX1_tally_98
  refine lv_tableOut (tgt := 99) hx hb dX1_tally_1 (by have q_0 := cu_ne s_0 0 (by decide); have q_1 := cu_ne s_1 1 (by decide); have q_2 := cu_ne s_2 2 (by decide); have q_3 := cu_ne s_3 3 (by decide); have q_4 := cu_ne s_4 4 (by decide); have q_5 := cu_ne s_5 5 (by decide); have q_6 := cu_ne s_6 6 (by decide); omega) (by decide) ?_
  refine lv_aload_n hx hb dX1_tally_99 rfl (lv_at hl 0 rfl) ?_
  refine lv_aload_n hx hb dX1_tally_100 rfl (lv_at hl 0 rfl) ?_
  refine va_get (D := D) (ci := 1) (v := .ref (a 1)) (C := RX1) (T := TX1) (N := 4) hx hb hts hiX1 hown hK hP 0 rfl rfl 0 (by decide) (hts (.fieldLink RX1 11 "CuckooShop" "clocks" "[LCuckooShop$Clock;") (by decide +kernel)) (fun _ h9 => h9) rfl dX1_tally_101 ?_
  refine lv_aload_n hx hb dX1_tally_104 rfl (lv_at hl 0 rfl) ?_
  refine va_get (D := D) (ci := 1) (v := .int mn) (C := RX1) (T := TX1) (N := 4) hx hb hts hiX1 hown hK hP 0 rfl rfl 3 (by decide) (hts (.fieldLink RX1 23 "CuckooShop" "minute" "I") (by decide +kernel)) (fun _ h9 => h9) rfl dX1_tally_105 ?_
  have sp := cu_sp.all (W0 := (cu_cw C a (nI N) mn K P)) (W1 := (cu_cw C a (nI N) mn K P)) rfl
  refine cu_callI (va_runV (As := [.ref (a 1), .int mn]) (rest := []) ⟨hx, hb, hml, hown, hts⟩ ((m_X1_offOfAll l D C a N hN mn K P mn) H0.size) (cwV 2 hts gX1_tally_X1_offOfAll rfl rfl rfl (by decide +kernel) ⟨Nat.le_of_ble_eq_true rfl, Nat.le_of_ble_eq_true rfl⟩) (cu_preV (ci := 1) sp hG hP hD rfl rfl) rfl rfl hl.1 rfl (lv_room (Nat.le_of_ble_eq_true rfl)) dX1_tally_108 ⟨Nat.le_of_ble_eq_true rfl, Nat.le_of_ble_eq_true rfl⟩) sp hP hD hS hA (fun H locs hP hD hS => ?_)
  have hP : va_P D vwCl (cu_cw C a (nI N) mn K P) H := hP
  have hD : va_D A (cu_cw C a (nI N) mn K P) := hD
  exact fin _ _ _ _ _ rfl (by simp only [k_tally, if_neg s_0, if_neg s_1, if_neg s_2, if_neg s_3, if_neg s_4, if_neg s_5, if_neg s_6, reduceIte]) hP hS dX1_tally_111
end
section
set_option maxHeartbeats 4000000 in
set_option maxRecDepth 100000 in
theorem m_X1_checkClock (l : Launch) (hlf : l.stackTraces = false) (D : va_G) (C : Nat → ClassId) (a : Nat → Nat) (N : Nat) (hN : N ≤ 10) (mn : Int32) (K P : Nat → Nat → Int32) (v1 : Int32) : cu_XV l D C yX1_checkClock wsX1_checkClock { frames := 6, cells := 1, slots := 6, locals := 82 } [.ref (a 0), .int v1] (cu_cw C a (nI N) mn K P) (cu_cw C a (nI N) mn K P) (k_oC N v1) 1 6 := by
  refine cu_openXV (cc := cX1_checkClock) (maxL := 2) hlf (by decide) rfl rfl (Nat.le_of_ble_eq_true rfl) ?_
  intro p e s m args below meth c A Z H0 ls e0 hx hb hml hts hown hnm hG hP hD hS hA hl hT fin thr prop
  have hK := hG.1
  have hl : lv_has ls 2 [(0, .ref (a 0)), (1, .int v1)] := hl
  have hiX1 : ∀ w ∈ wsX10, w ∈ wsX1_checkClock := by decide +kernel
  refine lv_iload_n hx hb dX1_checkClock_0 rfl (lv_at hl 1 rfl) ?_
  refine lv_if_lt (tgt := 12) hx hb dX1_checkClock_1 (by decide) (fun c_1 => ?_) (fun c_1 => ?_)
  · exact thr x_IOB "there is no such clock" 86 146 90 _ _ 12 _ _ _ _ cu_th_IOB (hts (.classLink RX1 86 x_IOB) (by decide +kernel)) (hts (.initialized x_IOB) (by decide +kernel)) (by decide +kernel) (by decide +kernel) hS hl.1 dX1_checkClock_12 dX1_checkClock_15 dX1_checkClock_16 dX1_checkClock_18 dX1_checkClock_21 (Nat.le_of_ble_eq_true rfl) (Nat.le_of_ble_eq_true rfl) (Nat.le_of_ble_eq_true rfl) (Nat.le_of_ble_eq_true rfl) (Nat.le_of_ble_eq_true rfl) (Nat.le_of_ble_eq_true rfl) (by simp only [k_oC, if_pos c_1, Option.none_or, Option.some_or, reduceIte]) hP
  · refine lv_iload_n hx hb dX1_checkClock_4 rfl (lv_at hl 1 rfl) ?_
    refine lv_aload_n hx hb dX1_checkClock_5 rfl (lv_at hl 0 rfl) ?_
    refine va_get (D := D) (ci := 1) (v := .int (nI N)) (C := RX1) (T := TX1) (N := 4) hx hb hts hiX1 hown hK hP 0 rfl rfl 2 (by decide) (hts (.fieldLink RX1 19 "CuckooShop" "present" "I") (by decide +kernel)) (fun _ h9 => h9) rfl dX1_checkClock_6 ?_
    refine lv_icmp_lt (tgt := 22) hx hb dX1_checkClock_9 (by decide) (fun c_9 => ?_) (fun c_9 => ?_)
    · refine W.widen (k := 1) (n := 6) (Nat.le_of_ble_eq_true rfl) (Nat.le_of_ble_eq_true rfl) ?_
      exact fin _ _ _ _ (by simp only [k_oC, if_neg c_1, if_pos c_9, Option.none_or, Option.some_or, reduceIte]) hP hS dX1_checkClock_22
    · exact thr x_IOB "there is no such clock" 86 146 90 _ _ 12 _ _ _ _ cu_th_IOB (hts (.classLink RX1 86 x_IOB) (by decide +kernel)) (hts (.initialized x_IOB) (by decide +kernel)) (by decide +kernel) (by decide +kernel) hS hl.1 dX1_checkClock_12 dX1_checkClock_15 dX1_checkClock_16 dX1_checkClock_18 dX1_checkClock_21 (Nat.le_of_ble_eq_true rfl) (Nat.le_of_ble_eq_true rfl) (Nat.le_of_ble_eq_true rfl) (Nat.le_of_ble_eq_true rfl) (Nat.le_of_ble_eq_true rfl) (Nat.le_of_ble_eq_true rfl) (by simp only [k_oC, if_neg c_1, if_neg c_9, Option.none_or, Option.some_or, reduceIte]) hP

set_option maxHeartbeats 4000000 in
set_option maxRecDepth 100000 in
theorem m_X1_checkTime (l : Launch) (hlf : l.stackTraces = false) (D : va_G) (C : Nat → ClassId) (v1 : Int32) : cu_XV l D C yX1_checkTime wsX1_checkTime { frames := 6, cells := 1, slots := 6, locals := 82 } [.int v1] ([] : va_W) ([] : va_W) (k_oT v1) 1 6 := by
  refine cu_openXV (cc := cX1_checkTime) (maxL := 1) hlf (by decide) rfl rfl (Nat.le_of_ble_eq_true rfl) ?_
  intro p e s m args below meth c A Z H0 ls e0 hx hb hml hts hown hnm hG hP hD hS hA hl hT fin thr prop
  have hK := hG.1
  have hl : lv_has ls 1 [(0, .int v1)] := hl
  refine lv_iload_n hx hb dX1_checkTime_0 rfl (lv_at hl 0 rfl) ?_
  refine lv_iconst (v := 0) hx hb dX1_checkTime_1 (by decide) ?_
  refine lv_sipush (v := 719) hx hb dX1_checkTime_2 (by decide) ?_
  have sp := cu_sp.nil (W0 := ([] : va_W))
  refine cu_callI (va_runS (As := [.int v1, .int 0, .int 719]) (rest := []) ⟨hx, hb, hml, hown, hts⟩ ((m_X1_isWithin l D C v1 0 719) H0.size) (va_cwS 3 hts gX1_checkTime_X1_isWithin rfl rfl rfl (by decide +kernel) ⟨Nat.le_of_ble_eq_true rfl, Nat.le_of_ble_eq_true rfl⟩) (cu_preS sp hG hP hD) rfl rfl hl.1 rfl (lv_room (Nat.le_of_ble_eq_true rfl)) dX1_checkTime_5 ⟨Nat.le_of_ble_eq_true rfl, Nat.le_of_ble_eq_true rfl⟩) sp hP hD hS hA (fun H locs hP hD hS => ?_)
  refine lv_if_ne (tgt := 21) hx hb dX1_checkTime_8 (by decide) (fun c_8 => ?_) (fun c_8 => ?_)
  · refine W.widen (k := 1) (n := 6) (Nat.le_of_ble_eq_true rfl) (Nat.le_of_ble_eq_true rfl) ?_
    exact fin _ _ _ _ (by simp only [k_oT, if_neg c_8, Option.none_or, Option.some_or, reduceIte]) hP hS dX1_checkTime_21
  · exact thr x_IAE "a time of the dial is 0 to 719" 47 148 51 _ _ 11 _ _ _ _ cu_th_IAE (hts (.classLink RX1 47 x_IAE) (by decide +kernel)) (hts (.initialized x_IAE) (by decide +kernel)) (by decide +kernel) (by decide +kernel) hS hl.1 dX1_checkTime_11 dX1_checkTime_14 dX1_checkTime_15 dX1_checkTime_17 dX1_checkTime_20 (Nat.le_of_ble_eq_true rfl) (Nat.le_of_ble_eq_true rfl) (Nat.le_of_ble_eq_true rfl) (Nat.le_of_ble_eq_true rfl) (Nat.le_of_ble_eq_true rfl) (Nat.le_of_ble_eq_true rfl) (by simp only [k_oT, if_pos c_8, Option.none_or, Option.some_or, reduceIte]) hP

set_option maxHeartbeats 4000000 in
set_option maxRecDepth 100000 in
theorem m_X1_checkMinutes (l : Launch) (hlf : l.stackTraces = false) (D : va_G) (C : Nat → ClassId) (v1 : Int32) : cu_XV l D C yX1_checkMinutes wsX1_checkMinutes { frames := 6, cells := 1, slots := 6, locals := 82 } [.int v1] ([] : va_W) ([] : va_W) (k_oM v1) 1 6 := by
  refine cu_openXV (cc := cX1_checkMinutes) (maxL := 1) hlf (by decide) rfl rfl (Nat.le_of_ble_eq_true rfl) ?_
  intro p e s m args below meth c A Z H0 ls e0 hx hb hml hts hown hnm hG hP hD hS hA hl hT fin thr prop
  have hK := hG.1
  have hl : lv_has ls 1 [(0, .int v1)] := hl
  refine lv_iload_n hx hb dX1_checkMinutes_0 rfl (lv_at hl 0 rfl) ?_
  refine lv_iconst (v := 1) hx hb dX1_checkMinutes_1 (by decide) ?_
  refine lv_sipush (v := 720) hx hb dX1_checkMinutes_2 (by decide) ?_
  have sp := cu_sp.nil (W0 := ([] : va_W))
  refine cu_callI (va_runS (As := [.int v1, .int 1, .int 720]) (rest := []) ⟨hx, hb, hml, hown, hts⟩ ((m_X1_isWithin l D C v1 1 720) H0.size) (va_cwS 3 hts gX1_checkMinutes_X1_isWithin rfl rfl rfl (by decide +kernel) ⟨Nat.le_of_ble_eq_true rfl, Nat.le_of_ble_eq_true rfl⟩) (cu_preS sp hG hP hD) rfl rfl hl.1 rfl (lv_room (Nat.le_of_ble_eq_true rfl)) dX1_checkMinutes_5 ⟨Nat.le_of_ble_eq_true rfl, Nat.le_of_ble_eq_true rfl⟩) sp hP hD hS hA (fun H locs hP hD hS => ?_)
  refine lv_if_ne (tgt := 21) hx hb dX1_checkMinutes_8 (by decide) (fun c_8 => ?_) (fun c_8 => ?_)
  · refine W.widen (k := 1) (n := 6) (Nat.le_of_ble_eq_true rfl) (Nat.le_of_ble_eq_true rfl) ?_
    exact fin _ _ _ _ (by simp only [k_oM, if_neg c_8, Option.none_or, Option.some_or, reduceIte]) hP hS dX1_checkMinutes_21
  · exact thr x_IAE "minutes are 1 to 720" 47 150 51 _ _ 11 _ _ _ _ cu_th_IAE (hts (.classLink RX1 47 x_IAE) (by decide +kernel)) (hts (.initialized x_IAE) (by decide +kernel)) (by decide +kernel) (by decide +kernel) hS hl.1 dX1_checkMinutes_11 dX1_checkMinutes_14 dX1_checkMinutes_15 dX1_checkMinutes_17 dX1_checkMinutes_20 (Nat.le_of_ble_eq_true rfl) (Nat.le_of_ble_eq_true rfl) (Nat.le_of_ble_eq_true rfl) (Nat.le_of_ble_eq_true rfl) (Nat.le_of_ble_eq_true rfl) (Nat.le_of_ble_eq_true rfl) (by simp only [k_oM, if_pos c_8, Option.none_or, Option.some_or, reduceIte]) hP

set_option maxHeartbeats 4000000 in
set_option maxRecDepth 100000 in
theorem m_X1_wind (l : Launch) (hlf : l.stackTraces = false) (D : va_G) (C : Nat → ClassId) (a : Nat → Nat) (N : Nat) (hN : N ≤ 10) (mn : Int32) (K P : Nat → Nat → Int32) (v1 : Int32) : cu_XI l D C yX1_wind wsX1_wind { frames := 7, cells := 1, slots := 6, locals := 103 } [.ref (a 0), .int v1] (cu_cw C a (nI N) mn K P) (cu_cw C a (nI N) mn (va_up K v1.toNatClampNeg (upd (upd (K v1.toNatClampNeg) 2 600) 5 1)) P) (k_oC N v1) (600 - K v1.toNatClampNeg 2) 1 6 := by
  refine cu_openXI (cc := cX1_wind) (maxL := 2) (ty := .int) hlf (by decide) rfl rfl (Nat.le_of_ble_eq_true rfl) ?_
  intro p e s m args below meth c A Z H0 ls e0 hx hb hml hts hown hnm hG hP hD hS hA hl hT fin thr prop
  have hK := hG.1
  have hl : lv_has ls 2 [(0, .ref (a 0)), (1, .int v1)] := hl
  have hiX1 : ∀ w ∈ wsX10, w ∈ wsX1_wind := by decide +kernel
  refine lv_aload_n hx hb dX1_wind_0 rfl (lv_at hl 0 rfl) ?_
  refine lv_iload_n hx hb dX1_wind_1 rfl (lv_at hl 1 rfl) ?_
  have sp := cu_sp.all (W0 := (cu_cw C a (nI N) mn K P)) (W1 := (cu_cw C a (nI N) mn K P)) rfl
  refine cu_callXV (vx_runV (As := [.int v1]) (rest := []) ⟨hx, hb, hml, hown, hts⟩ ((m_X1_checkClock l hlf D C a N hN mn K P v1) H0.size) (cwV 1 hts gX1_wind_X1_checkClock rfl rfl rfl (by decide +kernel) ⟨Nat.le_of_ble_eq_true rfl, Nat.le_of_ble_eq_true rfl⟩) (cu_preXV (ci := 1) sp hG hP hD hT hS hA rfl rfl) rfl rfl hl.1 rfl (lv_room (Nat.le_of_ble_eq_true rfl)) dX1_wind_2 ⟨Nat.le_of_ble_eq_true rfl, Nat.le_of_ble_eq_true rfl⟩) sp hP hD hS hA (fun E ce q9 H locs hoE hP hS hce hcv hcl => prop E ce q9 H locs _ _ _ _ _ (by simp only [hoE, Option.none_or, Option.some_or, reduceIte]) hP hS hce hcv hcl (Nat.le_of_ble_eq_true rfl) (Nat.le_of_ble_eq_true rfl)) (fun H locs ho_2 hP hD hS => ?_)
  obtain ⟨i, hiN, rfl⟩ := k_oC_in hN ho_2
  have hi : i < 10 := by omega
  have hcl9 : (nI i).toNatClampNeg = i := nI_clamp (by omega)
  have hP : va_P D vwCl (cu_cw C a (nI N) mn K P) H := hP
  have hD : va_D A (cu_cw C a (nI N) mn K P) := hD
  refine lv_aload_n hx hb dX1_wind_5 rfl (lv_at hl 0 rfl) ?_
  refine va_get (D := D) (ci := 1) (v := .ref (a 1)) (C := RX1) (T := TX1) (N := 4) hx hb hts hiX1 hown hK hP 0 rfl rfl 0 (by decide) (hts (.fieldLink RX1 11 "CuckooShop" "clocks" "[LCuckooShop$Clock;") (by decide +kernel)) (fun _ h9 => h9) rfl dX1_wind_6 ?_
  refine lv_iload_n hx hb dX1_wind_9 rfl (lv_at hl 1 rfl) ?_
  refine cu_aaldK hi hx hb hK hP dX1_wind_10 ?_
  have sp := cu_spK (C := C) (a := a) (n := (nI N)) (m := mn) (K := K) (P := P) hi (upd (upd (K i) 2 600) 5 1)
  refine cu_callI (va_runVN (As := []) (rest := []) ⟨hx, hb, hml, hown, hts⟩ ((m_X0_drawUp l D C (a (3 + i)) (K i)) H.size) ⟨(va_cnB 0 hts gX1_wind_X0_drawUp_n66 rfl rfl rfl (hG.2.1 (66, yX0_drawUp) (by decide +kernel)) (hts (.initialized RX0) (by decide +kernel)) (by decide +kernel) ⟨Nat.le_of_ble_eq_true rfl, Nat.le_of_ble_eq_true rfl⟩), hts (.instanceMethod yX0_drawUp) (by decide +kernel), hts (.selects RX0 yX0_drawUp yX0_drawUp) (by decide +kernel)⟩ (cu_preV (ci := 0) sp hG hP hD rfl rfl) rfl rfl hl.1 rfl (lv_room (Nat.le_of_ble_eq_true rfl)) dX1_wind_11 ⟨Nat.le_of_ble_eq_true rfl, Nat.le_of_ble_eq_true rfl⟩) sp hP hD hS hA (fun H locs hP hD hS => ?_)
  have hP : va_P D vwCl (cu_cw C a (nI N) mn (va_up K i (upd (upd (K i) 2 600) 5 1)) P) H := hP
  have hD : va_D A (cu_cw C a (nI N) mn (va_up K i (upd (upd (K i) 2 600) 5 1)) P) := hD
  refine W.widen (k := 1) (n := 6) (Nat.le_of_ble_eq_true rfl) (Nat.le_of_ble_eq_true rfl) ?_
  exact fin _ _ _ _ _ rfl (by simp only [ho_2, Option.none_or, Option.some_or, reduceIte]) (by simp only [hcl9]) (by rw [hcl9]; exact hP) hS dX1_wind_14

set_option maxHeartbeats 4000000 in
set_option maxRecDepth 100000 in
theorem m_X1_stands (l : Launch) (hlf : l.stackTraces = false) (D : va_G) (C : Nat → ClassId) (a : Nat → Nat) (N : Nat) (hN : N ≤ 10) (mn : Int32) (K P : Nat → Nat → Int32) (v1 : Int32) : cu_XI l D C yX1_stands wsX1_stands { frames := 7, cells := 1, slots := 6, locals := 103 } [.ref (a 0), .int v1] (cu_cw C a (nI N) mn K P) (cu_cw C a (nI N) mn K P) (k_oC N v1) (k_stand (K v1.toNatClampNeg)) 1 6 := by
  refine cu_openXI (cc := cX1_stands) (maxL := 2) (ty := .int) hlf (by decide) rfl rfl (Nat.le_of_ble_eq_true rfl) ?_
  intro p e s m args below meth c A Z H0 ls e0 hx hb hml hts hown hnm hG hP hD hS hA hl hT fin thr prop
  have hK := hG.1
  have hl : lv_has ls 2 [(0, .ref (a 0)), (1, .int v1)] := hl
  have hiX1 : ∀ w ∈ wsX10, w ∈ wsX1_stands := by decide +kernel
  refine lv_aload_n hx hb dX1_stands_0 rfl (lv_at hl 0 rfl) ?_
  refine lv_iload_n hx hb dX1_stands_1 rfl (lv_at hl 1 rfl) ?_
  have sp := cu_sp.all (W0 := (cu_cw C a (nI N) mn K P)) (W1 := (cu_cw C a (nI N) mn K P)) rfl
  refine cu_callXV (vx_runV (As := [.int v1]) (rest := []) ⟨hx, hb, hml, hown, hts⟩ ((m_X1_checkClock l hlf D C a N hN mn K P v1) H0.size) (cwV 1 hts gX1_stands_X1_checkClock rfl rfl rfl (by decide +kernel) ⟨Nat.le_of_ble_eq_true rfl, Nat.le_of_ble_eq_true rfl⟩) (cu_preXV (ci := 1) sp hG hP hD hT hS hA rfl rfl) rfl rfl hl.1 rfl (lv_room (Nat.le_of_ble_eq_true rfl)) dX1_stands_2 ⟨Nat.le_of_ble_eq_true rfl, Nat.le_of_ble_eq_true rfl⟩) sp hP hD hS hA (fun E ce q9 H locs hoE hP hS hce hcv hcl => prop E ce q9 H locs _ _ _ _ _ (by simp only [hoE, Option.none_or, Option.some_or, reduceIte]) hP hS hce hcv hcl (Nat.le_of_ble_eq_true rfl) (Nat.le_of_ble_eq_true rfl)) (fun H locs ho_2 hP hD hS => ?_)
  obtain ⟨i, hiN, rfl⟩ := k_oC_in hN ho_2
  have hi : i < 10 := by omega
  have hcl9 : (nI i).toNatClampNeg = i := nI_clamp (by omega)
  have hP : va_P D vwCl (cu_cw C a (nI N) mn K P) H := hP
  have hD : va_D A (cu_cw C a (nI N) mn K P) := hD
  refine lv_aload_n hx hb dX1_stands_5 rfl (lv_at hl 0 rfl) ?_
  refine va_get (D := D) (ci := 1) (v := .ref (a 1)) (C := RX1) (T := TX1) (N := 4) hx hb hts hiX1 hown hK hP 0 rfl rfl 0 (by decide) (hts (.fieldLink RX1 11 "CuckooShop" "clocks" "[LCuckooShop$Clock;") (by decide +kernel)) (fun _ h9 => h9) rfl dX1_stands_6 ?_
  refine lv_iload_n hx hb dX1_stands_9 rfl (lv_at hl 1 rfl) ?_
  refine cu_aaldK hi hx hb hK hP dX1_stands_10 ?_
  have sp := cu_sp.rd (cu_cw_K (C := C) (a := a) (n := (nI N)) (m := mn) (K := K) (P := P) hi)
  refine cu_callI (va_runVN (As := []) (rest := []) ⟨hx, hb, hml, hown, hts⟩ ((m_X0_minutesToStand l D C (a (3 + i)) (K i)) H.size) ⟨(va_cnB 0 hts gX1_stands_X0_minutesToStand_n117 rfl rfl rfl (hG.2.1 (117, yX0_minutesToStand) (by decide +kernel)) (hts (.initialized RX0) (by decide +kernel)) (by decide +kernel) ⟨Nat.le_of_ble_eq_true rfl, Nat.le_of_ble_eq_true rfl⟩), hts (.instanceMethod yX0_minutesToStand) (by decide +kernel), hts (.selects RX0 yX0_minutesToStand yX0_minutesToStand) (by decide +kernel)⟩ (cu_preV (ci := 0) sp hG hP hD rfl rfl) rfl rfl hl.1 rfl (lv_room (Nat.le_of_ble_eq_true rfl)) dX1_stands_11 ⟨Nat.le_of_ble_eq_true rfl, Nat.le_of_ble_eq_true rfl⟩) sp hP hD hS hA (fun H locs hP hD hS => ?_)
  have hP : va_P D vwCl (cu_cw C a (nI N) mn K P) H := hP
  have hD : va_D A (cu_cw C a (nI N) mn K P) := hD
  refine W.widen (k := 1) (n := 6) (Nat.le_of_ble_eq_true rfl) (Nat.le_of_ble_eq_true rfl) ?_
  exact fin _ _ _ _ _ rfl (by simp only [ho_2, Option.none_or, Option.some_or, reduceIte]) (by simp only [hcl9]) hP hS dX1_stands_14

set_option maxHeartbeats 4000000 in
set_option maxRecDepth 100000 in
theorem m_X1_off (l : Launch) (hlf : l.stackTraces = false) (D : va_G) (C : Nat → ClassId) (a : Nat → Nat) (N : Nat) (hN : N ≤ 10) (mn : Int32) (K P : Nat → Nat → Int32) (v1 : Int32) : cu_XI l D C yX1_off wsX1_off { frames := 7, cells := 1, slots := 6, locals := 103 } [.ref (a 0), .int v1] (cu_cw C a (nI N) mn K P) (cu_cw C a (nI N) mn K P) (k_oC N v1) (k_off (K v1.toNatClampNeg) mn) 1 6 := by
  refine cu_openXI (cc := cX1_off) (maxL := 2) (ty := .int) hlf (by decide) rfl rfl (Nat.le_of_ble_eq_true rfl) ?_
  intro p e s m args below meth c A Z H0 ls e0 hx hb hml hts hown hnm hG hP hD hS hA hl hT fin thr prop
  have hK := hG.1
  have hl : lv_has ls 2 [(0, .ref (a 0)), (1, .int v1)] := hl
  have hiX1 : ∀ w ∈ wsX10, w ∈ wsX1_off := by decide +kernel
  refine lv_aload_n hx hb dX1_off_0 rfl (lv_at hl 0 rfl) ?_
  refine lv_iload_n hx hb dX1_off_1 rfl (lv_at hl 1 rfl) ?_
  have sp := cu_sp.all (W0 := (cu_cw C a (nI N) mn K P)) (W1 := (cu_cw C a (nI N) mn K P)) rfl
  refine cu_callXV (vx_runV (As := [.int v1]) (rest := []) ⟨hx, hb, hml, hown, hts⟩ ((m_X1_checkClock l hlf D C a N hN mn K P v1) H0.size) (cwV 1 hts gX1_off_X1_checkClock rfl rfl rfl (by decide +kernel) ⟨Nat.le_of_ble_eq_true rfl, Nat.le_of_ble_eq_true rfl⟩) (cu_preXV (ci := 1) sp hG hP hD hT hS hA rfl rfl) rfl rfl hl.1 rfl (lv_room (Nat.le_of_ble_eq_true rfl)) dX1_off_2 ⟨Nat.le_of_ble_eq_true rfl, Nat.le_of_ble_eq_true rfl⟩) sp hP hD hS hA (fun E ce q9 H locs hoE hP hS hce hcv hcl => prop E ce q9 H locs _ _ _ _ _ (by simp only [hoE, Option.none_or, Option.some_or, reduceIte]) hP hS hce hcv hcl (Nat.le_of_ble_eq_true rfl) (Nat.le_of_ble_eq_true rfl)) (fun H locs ho_2 hP hD hS => ?_)
  obtain ⟨i, hiN, rfl⟩ := k_oC_in hN ho_2
  have hi : i < 10 := by omega
  have hcl9 : (nI i).toNatClampNeg = i := nI_clamp (by omega)
  have hP : va_P D vwCl (cu_cw C a (nI N) mn K P) H := hP
  have hD : va_D A (cu_cw C a (nI N) mn K P) := hD
  refine lv_aload_n hx hb dX1_off_5 rfl (lv_at hl 0 rfl) ?_
  refine va_get (D := D) (ci := 1) (v := .ref (a 1)) (C := RX1) (T := TX1) (N := 4) hx hb hts hiX1 hown hK hP 0 rfl rfl 0 (by decide) (hts (.fieldLink RX1 11 "CuckooShop" "clocks" "[LCuckooShop$Clock;") (by decide +kernel)) (fun _ h9 => h9) rfl dX1_off_6 ?_
  refine lv_iload_n hx hb dX1_off_9 rfl (lv_at hl 1 rfl) ?_
  refine cu_aaldK hi hx hb hK hP dX1_off_10 ?_
  refine lv_aload_n hx hb dX1_off_11 rfl (lv_at hl 0 rfl) ?_
  refine va_get (D := D) (ci := 1) (v := .int mn) (C := RX1) (T := TX1) (N := 4) hx hb hts hiX1 hown hK hP 0 rfl rfl 3 (by decide) (hts (.fieldLink RX1 23 "CuckooShop" "minute" "I") (by decide +kernel)) (fun _ h9 => h9) rfl dX1_off_12 ?_
  have sp := cu_sp.rd (cu_cw_K (C := C) (a := a) (n := (nI N)) (m := mn) (K := K) (P := P) hi)
  refine cu_callI (va_runS (As := [.ref (a (3 + i)), .int mn]) (rest := []) ⟨hx, hb, hml, hown, hts⟩ ((m_X1_offOf l D C (a (3 + i)) (K i) mn) H.size) (va_cwS 2 hts gX1_off_X1_offOf rfl rfl rfl (by decide +kernel) ⟨Nat.le_of_ble_eq_true rfl, Nat.le_of_ble_eq_true rfl⟩) (cu_preS sp hG hP hD) rfl rfl hl.1 rfl (lv_room (Nat.le_of_ble_eq_true rfl)) dX1_off_15 ⟨Nat.le_of_ble_eq_true rfl, Nat.le_of_ble_eq_true rfl⟩) sp hP hD hS hA (fun H locs hP hD hS => ?_)
  refine W.widen (k := 1) (n := 6) (Nat.le_of_ble_eq_true rfl) (Nat.le_of_ble_eq_true rfl) ?_
  exact fin _ _ _ _ _ rfl (by simp only [ho_2, Option.none_or, Option.some_or, reduceIte]) (by simp only [hcl9]) hP hS dX1_off_18

set_option maxHeartbeats 4000000 in
set_option maxRecDepth 100000 in
theorem m_X1_clock (l : Launch) (hlf : l.stackTraces = false) (D : va_G) (C : Nat → ClassId) (a : Nat → Nat) (N : Nat) (hN : N ≤ 10) (mn : Int32) (K P : Nat → Nat → Int32) (v1 : Int32) (v2 : Int32) : cu_XI l D C yX1_clock wsX1_clock { frames := 7, cells := 2, slots := 12, locals := 103 } [.ref (a 0), .int v1, .int v2] (cu_cw C a (nI N) mn K P) (cu_cw C a (nI N) mn K P) ((k_oC N v1).or (k_oR v2)) (k_read (K v1.toNatClampNeg) v2) 2 12 := by
  refine cu_openXI (cc := cX1_clock) (maxL := 3) (ty := .int) hlf (by decide) rfl rfl (Nat.le_of_ble_eq_true rfl) ?_
  intro p e s m args below meth c A Z H0 ls e0 hx hb hml hts hown hnm hG hP hD hS hA hl hT fin thr prop
  have hK := hG.1
  have hl : lv_has ls 3 [(0, .ref (a 0)), (1, .int v1), (2, .int v2)] := hl
  have hiX1 : ∀ w ∈ wsX10, w ∈ wsX1_clock := by decide +kernel
  refine lv_aload_n hx hb dX1_clock_0 rfl (lv_at hl 0 rfl) ?_
  refine lv_iload_n hx hb dX1_clock_1 rfl (lv_at hl 1 rfl) ?_
  have sp := cu_sp.all (W0 := (cu_cw C a (nI N) mn K P)) (W1 := (cu_cw C a (nI N) mn K P)) rfl
  refine cu_callXV (vx_runV (As := [.int v1]) (rest := []) ⟨hx, hb, hml, hown, hts⟩ ((m_X1_checkClock l hlf D C a N hN mn K P v1) H0.size) (cwV 1 hts gX1_clock_X1_checkClock rfl rfl rfl (by decide +kernel) ⟨Nat.le_of_ble_eq_true rfl, Nat.le_of_ble_eq_true rfl⟩) (cu_preXV (ci := 1) sp hG hP hD hT hS hA rfl rfl) rfl rfl hl.1 rfl (lv_room (Nat.le_of_ble_eq_true rfl)) dX1_clock_2 ⟨Nat.le_of_ble_eq_true rfl, Nat.le_of_ble_eq_true rfl⟩) sp hP hD hS hA (fun E ce q9 H locs hoE hP hS hce hcv hcl => prop E ce q9 H locs _ _ _ _ _ (by simp only [k_oR, hoE, Option.none_or, Option.some_or, reduceIte]) hP hS hce hcv hcl (Nat.le_of_ble_eq_true rfl) (Nat.le_of_ble_eq_true rfl)) (fun H locs ho_2 hP hD hS => ?_)
  obtain ⟨i, hiN, rfl⟩ := k_oC_in hN ho_2
  have hi : i < 10 := by omega
  have hcl9 : (nI i).toNatClampNeg = i := nI_clamp (by omega)
  have hP : va_P D vwCl (cu_cw C a (nI N) mn K P) H := hP
  have hD : va_D A (cu_cw C a (nI N) mn K P) := hD
  refine lv_iload_n hx hb dX1_clock_5 rfl (lv_at hl 2 rfl) ?_
  refine lv_iconst (v := 0) hx hb dX1_clock_6 (by decide) ?_
  refine lv_bipush (v := 10) hx hb dX1_clock_7 (by decide) ?_
  have sp := cu_sp.nil (W0 := (cu_cw C a (nI N) mn K P))
  refine cu_callI (va_runS (As := [.int v2, .int 0, .int 10]) (rest := []) ⟨hx, hb, hml, hown, hts⟩ ((m_X1_isWithin l D C v2 0 10) H.size) (va_cwS 3 hts gX1_clock_X1_isWithin rfl rfl rfl (by decide +kernel) ⟨Nat.le_of_ble_eq_true rfl, Nat.le_of_ble_eq_true rfl⟩) (cu_preS sp hG hP hD) rfl rfl hl.1 rfl (lv_room (Nat.le_of_ble_eq_true rfl)) dX1_clock_9 ⟨Nat.le_of_ble_eq_true rfl, Nat.le_of_ble_eq_true rfl⟩) sp hP hD hS hA (fun H locs hP hD hS => ?_)
  refine lv_if_ne (tgt := 25) hx hb dX1_clock_12 (by decide) (fun c_12 => ?_) (fun c_12 => ?_)
  · refine lv_aload_n hx hb dX1_clock_25 rfl (lv_at hl 0 rfl) ?_
    refine va_get (D := D) (ci := 1) (v := .ref (a 1)) (C := RX1) (T := TX1) (N := 4) hx hb hts hiX1 hown hK hP 0 rfl rfl 0 (by decide) (hts (.fieldLink RX1 11 "CuckooShop" "clocks" "[LCuckooShop$Clock;") (by decide +kernel)) (fun _ h9 => h9) rfl dX1_clock_26 ?_
    refine lv_iload_n hx hb dX1_clock_29 rfl (lv_at hl 1 rfl) ?_
    refine cu_aaldK hi hx hb hK hP dX1_clock_30 ?_
    refine lv_iload_n hx hb dX1_clock_31 rfl (lv_at hl 2 rfl) ?_
    have sp := cu_sp.rd (cu_cw_K (C := C) (a := a) (n := (nI N)) (m := mn) (K := K) (P := P) hi)
    refine cu_callI (va_runVN (As := [.int v2]) (rest := []) ⟨hx, hb, hml, hown, hts⟩ ((m_X0_reading l D C (a (3 + i)) (K i) v2) H.size) ⟨(va_cnB 1 hts gX1_clock_X0_reading_n91 rfl rfl rfl (hG.2.1 (91, yX0_reading) (by decide +kernel)) (hts (.initialized RX0) (by decide +kernel)) (by decide +kernel) ⟨Nat.le_of_ble_eq_true rfl, Nat.le_of_ble_eq_true rfl⟩), hts (.instanceMethod yX0_reading) (by decide +kernel), hts (.selects RX0 yX0_reading yX0_reading) (by decide +kernel)⟩ (cu_preV (ci := 0) sp hG hP hD rfl rfl) rfl rfl hl.1 rfl (lv_room (Nat.le_of_ble_eq_true rfl)) dX1_clock_32 ⟨Nat.le_of_ble_eq_true rfl, Nat.le_of_ble_eq_true rfl⟩) sp hP hD hS hA (fun H locs hP hD hS => ?_)
    have hP : va_P D vwCl (cu_cw C a (nI N) mn K P) H := hP
    have hD : va_D A (cu_cw C a (nI N) mn K P) := hD
    refine W.widen (k := 2) (n := 12) (Nat.le_of_ble_eq_true rfl) (Nat.le_of_ble_eq_true rfl) ?_
    exact fin _ _ _ _ _ rfl (by simp only [k_oR, ho_2, if_neg c_12, Option.none_or, Option.some_or, reduceIte]) (by simp only [hcl9]) hP hS dX1_clock_35
  · exact thr x_IOB "what is told of a clock is 0 to 10" 86 88 90 _ _ 15 _ _ _ _ cu_th_IOB (hts (.classLink RX1 86 x_IOB) (by decide +kernel)) (hts (.initialized x_IOB) (by decide +kernel)) (by decide +kernel) (by decide +kernel) hS hl.1 dX1_clock_15 dX1_clock_18 dX1_clock_19 dX1_clock_21 dX1_clock_24 (Nat.le_of_ble_eq_true rfl) (Nat.le_of_ble_eq_true rfl) (Nat.le_of_ble_eq_true rfl) (Nat.le_of_ble_eq_true rfl) (Nat.le_of_ble_eq_true rfl) (Nat.le_of_ble_eq_true rfl) (by simp only [k_oR, ho_2, if_pos c_12, Option.none_or, Option.some_or, reduceIte]) hP

set_option maxHeartbeats 4000000 in
set_option maxRecDepth 100000 in
theorem m_X1_gear (l : Launch) (hlf : l.stackTraces = false) (D : va_G) (C : Nat → ClassId) (a : Nat → Nat) (N : Nat) (hN : N ≤ 10) (mn : Int32) (K P : Nat → Nat → Int32) (v1 : Int32) (v2 : Int32) (v3 : Int32) (v4 : Int32) : cu_XI l D C yX1_gear wsX1_gear { frames := 7, cells := 2, slots := 12, locals := 103 } [.ref (a 0), .int v1, .int v2, .int v3, .int v4] (cu_cw C a (nI N) mn K P) (cu_cw C a (nI N) mn (va_up K v1.toNatClampNeg (upd (upd (upd (K v1.toNatClampNeg) 9 v2) 10 v3) 11 v4)) P) ((k_oC N v1).or (k_oG v2 v3 v4)) (k_adv (upd (upd (upd (K v1.toNatClampNeg) 9 v2) 10 v3) 11 v4)) 2 12 := by
  refine cu_openXI (cc := cX1_gear) (maxL := 5) (ty := .int) hlf (by decide) rfl rfl (Nat.le_of_ble_eq_true rfl) ?_
  intro p e s m args below meth c A Z H0 ls e0 hx hb hml hts hown hnm hG hP hD hS hA hl hT fin thr prop
  have hK := hG.1
  have hl : lv_has ls 5 [(0, .ref (a 0)), (1, .int v1), (2, .int v2), (3, .int v3), (4, .int v4)] := hl
  have hiX1 : ∀ w ∈ wsX10, w ∈ wsX1_gear := by decide +kernel
  refine lv_aload_n hx hb dX1_gear_0 rfl (lv_at hl 0 rfl) ?_
  refine lv_iload_n hx hb dX1_gear_1 rfl (lv_at hl 1 rfl) ?_
  have sp := cu_sp.all (W0 := (cu_cw C a (nI N) mn K P)) (W1 := (cu_cw C a (nI N) mn K P)) rfl
  refine cu_callXV (vx_runV (As := [.int v1]) (rest := []) ⟨hx, hb, hml, hown, hts⟩ ((m_X1_checkClock l hlf D C a N hN mn K P v1) H0.size) (cwV 1 hts gX1_gear_X1_checkClock rfl rfl rfl (by decide +kernel) ⟨Nat.le_of_ble_eq_true rfl, Nat.le_of_ble_eq_true rfl⟩) (cu_preXV (ci := 1) sp hG hP hD hT hS hA rfl rfl) rfl rfl hl.1 rfl (lv_room (Nat.le_of_ble_eq_true rfl)) dX1_gear_2 ⟨Nat.le_of_ble_eq_true rfl, Nat.le_of_ble_eq_true rfl⟩) sp hP hD hS hA (fun E ce q9 H locs hoE hP hS hce hcv hcl => prop E ce q9 H locs _ _ _ _ _ (by simp only [k_oG, hoE, Option.none_or, Option.some_or, reduceIte]) hP hS hce hcv hcl (Nat.le_of_ble_eq_true rfl) (Nat.le_of_ble_eq_true rfl)) (fun H locs ho_2 hP hD hS => ?_)
  obtain ⟨i, hiN, rfl⟩ := k_oC_in hN ho_2
  have hi : i < 10 := by omega
  have hcl9 : (nI i).toNatClampNeg = i := nI_clamp (by omega)
  have hP : va_P D vwCl (cu_cw C a (nI N) mn K P) H := hP
  have hD : va_D A (cu_cw C a (nI N) mn K P) := hD
  refine lv_iload_n hx hb dX1_gear_5 rfl (lv_at hl 2 rfl) ?_
  refine lv_bipush (v := 20) hx hb dX1_gear_6 (by decide) ?_
  refine lv_bipush (v := 40) hx hb dX1_gear_8 (by decide) ?_
  have sp := cu_sp.nil (W0 := (cu_cw C a (nI N) mn K P))
  refine cu_callI (va_runS (As := [.int v2, .int 20, .int 40]) (rest := []) ⟨hx, hb, hml, hown, hts⟩ ((m_X1_isWithin l D C v2 20 40) H.size) (va_cwS 3 hts gX1_gear_X1_isWithin rfl rfl rfl (by decide +kernel) ⟨Nat.le_of_ble_eq_true rfl, Nat.le_of_ble_eq_true rfl⟩) (cu_preS sp hG hP hD) rfl rfl hl.1 rfl (lv_room (Nat.le_of_ble_eq_true rfl)) dX1_gear_10 ⟨Nat.le_of_ble_eq_true rfl, Nat.le_of_ble_eq_true rfl⟩) sp hP hD hS hA (fun H locs hP hD hS => ?_)
  refine lv_if_eq (tgt := 27) hx hb dX1_gear_13 (by decide) (fun c_13 => ?_) (fun c_13 => ?_)
  · exact thr x_IAE "a gear has 20 to 40 teeth" 47 49 51 _ _ 27 _ _ _ _ cu_th_IAE (hts (.classLink RX1 47 x_IAE) (by decide +kernel)) (hts (.initialized x_IAE) (by decide +kernel)) (by decide +kernel) (by decide +kernel) hS hl.1 dX1_gear_27 dX1_gear_30 dX1_gear_31 dX1_gear_33 dX1_gear_36 (Nat.le_of_ble_eq_true rfl) (Nat.le_of_ble_eq_true rfl) (Nat.le_of_ble_eq_true rfl) (Nat.le_of_ble_eq_true rfl) (Nat.le_of_ble_eq_true rfl) (Nat.le_of_ble_eq_true rfl) (by simp only [k_oG, ho_2, if_pos c_13, Option.none_or, Option.some_or, reduceIte]) hP
  · refine lv_iload_n hx hb dX1_gear_16 rfl (lv_at hl 3 rfl) ?_
    refine lv_bipush (v := 20) hx hb dX1_gear_17 (by decide) ?_
    refine lv_bipush (v := 40) hx hb dX1_gear_19 (by decide) ?_
    have sp := cu_sp.nil (W0 := (cu_cw C a (nI N) mn K P))
    refine cu_callI (va_runS (As := [.int v3, .int 20, .int 40]) (rest := []) ⟨hx, hb, hml, hown, hts⟩ ((m_X1_isWithin l D C v3 20 40) H.size) (va_cwS 3 hts gX1_gear_X1_isWithin rfl rfl rfl (by decide +kernel) ⟨Nat.le_of_ble_eq_true rfl, Nat.le_of_ble_eq_true rfl⟩) (cu_preS sp hG hP hD) rfl rfl hl.1 rfl (lv_room (Nat.le_of_ble_eq_true rfl)) dX1_gear_21 ⟨Nat.le_of_ble_eq_true rfl, Nat.le_of_ble_eq_true rfl⟩) sp hP hD hS hA (fun H locs hP hD hS => ?_)
    refine lv_if_ne (tgt := 37) hx hb dX1_gear_24 (by decide) (fun c_24 => ?_) (fun c_24 => ?_)
    · refine lv_iload hx hb dX1_gear_37 (lv_at hl 4 rfl) ?_
      refine lv_bipush (v := -20) hx hb dX1_gear_39 (by decide) ?_
      refine lv_bipush (v := 20) hx hb dX1_gear_41 (by decide) ?_
      have sp := cu_sp.nil (W0 := (cu_cw C a (nI N) mn K P))
      refine cu_callI (va_runS (As := [.int v4, .int (-20), .int 20]) (rest := []) ⟨hx, hb, hml, hown, hts⟩ ((m_X1_isWithin l D C v4 (-20) 20) H.size) (va_cwS 3 hts gX1_gear_X1_isWithin rfl rfl rfl (by decide +kernel) ⟨Nat.le_of_ble_eq_true rfl, Nat.le_of_ble_eq_true rfl⟩) (cu_preS sp hG hP hD) rfl rfl hl.1 rfl (lv_room (Nat.le_of_ble_eq_true rfl)) dX1_gear_43 ⟨Nat.le_of_ble_eq_true rfl, Nat.le_of_ble_eq_true rfl⟩) sp hP hD hS hA (fun H locs hP hD hS => ?_)
      refine lv_if_ne (tgt := 59) hx hb dX1_gear_46 (by decide) (fun c_46 => ?_) (fun c_46 => ?_)
      · refine lv_aload_n hx hb dX1_gear_59 rfl (lv_at hl 0 rfl) ?_
        refine va_get (D := D) (ci := 1) (v := .ref (a 1)) (C := RX1) (T := TX1) (N := 4) hx hb hts hiX1 hown hK hP 0 rfl rfl 0 (by decide) (hts (.fieldLink RX1 11 "CuckooShop" "clocks" "[LCuckooShop$Clock;") (by decide +kernel)) (fun _ h9 => h9) rfl dX1_gear_60 ?_
        refine lv_iload_n hx hb dX1_gear_63 rfl (lv_at hl 1 rfl) ?_
        refine cu_aaldK hi hx hb hK hP dX1_gear_64 ?_
        refine lv_iload_n hx hb dX1_gear_65 rfl (lv_at hl 2 rfl) ?_
        refine lv_iload_n hx hb dX1_gear_66 rfl (lv_at hl 3 rfl) ?_
        refine lv_iload hx hb dX1_gear_67 (lv_at hl 4 rfl) ?_
        have sp := cu_spK (C := C) (a := a) (n := (nI N)) (m := mn) (K := K) (P := P) hi (upd (upd (upd (K i) 9 v2) 10 v3) 11 v4)
        refine cu_callV (va_runVN (As := [.int v2, .int v3, .int v4]) (rest := []) ⟨hx, hb, hml, hown, hts⟩ ((m_X0_fitTrain l D C (a (3 + i)) (K i) v2 v3 v4) H.size) ⟨(va_cnB 3 hts gX1_gear_X0_fitTrain_n54 rfl rfl rfl (hG.2.1 (54, yX0_fitTrain) (by decide +kernel)) (hts (.initialized RX0) (by decide +kernel)) (by decide +kernel) ⟨Nat.le_of_ble_eq_true rfl, Nat.le_of_ble_eq_true rfl⟩), hts (.instanceMethod yX0_fitTrain) (by decide +kernel), hts (.selects RX0 yX0_fitTrain yX0_fitTrain) (by decide +kernel)⟩ (cu_preV (ci := 0) sp hG hP hD rfl rfl) rfl rfl hl.1 rfl (lv_room (Nat.le_of_ble_eq_true rfl)) dX1_gear_69 ⟨Nat.le_of_ble_eq_true rfl, Nat.le_of_ble_eq_true rfl⟩) sp hP hD hS hA (fun H locs hP hD hS => ?_)
        have hP : va_P D vwCl (cu_cw C a (nI N) mn (va_up K i (upd (upd (upd (K i) 9 v2) 10 v3) 11 v4)) P) H := hP
        have hD : va_D A (cu_cw C a (nI N) mn (va_up K i (upd (upd (upd (K i) 9 v2) 10 v3) 11 v4)) P) := hD
        refine lv_aload_n hx hb dX1_gear_72 rfl (lv_at hl 0 rfl) ?_
        refine va_get (D := D) (ci := 1) (v := .ref (a 1)) (C := RX1) (T := TX1) (N := 4) hx hb hts hiX1 hown hK hP 0 rfl rfl 0 (by decide) (hts (.fieldLink RX1 11 "CuckooShop" "clocks" "[LCuckooShop$Clock;") (by decide +kernel)) (fun _ h9 => h9) rfl dX1_gear_73 ?_
        refine lv_iload_n hx hb dX1_gear_76 rfl (lv_at hl 1 rfl) ?_
        refine cu_aaldK hi hx hb hK hP dX1_gear_77 ?_
        have sp := cu_sp.rd (cu_cw_K (C := C) (a := a) (n := (nI N)) (m := mn) (K := (va_up K i (upd (upd (upd (K i) 9 v2) 10 v3) 11 v4))) (P := P) hi)
        refine cu_callI (va_runVN (As := []) (rest := []) ⟨hx, hb, hml, hown, hts⟩ ((m_X0_advance l D C (a (3 + i)) ((va_up K i (upd (upd (upd (K i) 9 v2) 10 v3) 11 v4)) i)) H.size) ⟨(va_cnB 0 hts gX1_gear_X0_advance_n58 rfl rfl rfl (hG.2.1 (58, yX0_advance) (by decide +kernel)) (hts (.initialized RX0) (by decide +kernel)) (by decide +kernel) ⟨Nat.le_of_ble_eq_true rfl, Nat.le_of_ble_eq_true rfl⟩), hts (.instanceMethod yX0_advance) (by decide +kernel), hts (.selects RX0 yX0_advance yX0_advance) (by decide +kernel)⟩ (cu_preV (ci := 0) sp hG hP hD rfl rfl) rfl rfl hl.1 rfl (lv_room (Nat.le_of_ble_eq_true rfl)) dX1_gear_78 ⟨Nat.le_of_ble_eq_true rfl, Nat.le_of_ble_eq_true rfl⟩) sp hP hD hS hA (fun H locs hP hD hS => ?_)
        have hP : va_P D vwCl (cu_cw C a (nI N) mn (va_up K i (upd (upd (upd (K i) 9 v2) 10 v3) 11 v4)) P) H := hP
        have hD : va_D A (cu_cw C a (nI N) mn (va_up K i (upd (upd (upd (K i) 9 v2) 10 v3) 11 v4)) P) := hD
        refine W.widen (k := 2) (n := 12) (Nat.le_of_ble_eq_true rfl) (Nat.le_of_ble_eq_true rfl) ?_
        exact fin _ _ _ _ _ rfl (by simp only [k_oG, ho_2, if_neg c_13, if_neg c_24, if_neg c_46, Option.none_or, Option.some_or, reduceIte]) (by simp only [hcl9]; rw [va_up_self]) (by rw [hcl9]; exact hP) hS dX1_gear_81
      · exact thr x_IAE "a pendulum is -20 to 20" 47 52 51 _ _ 49 _ _ _ _ cu_th_IAE (hts (.classLink RX1 47 x_IAE) (by decide +kernel)) (hts (.initialized x_IAE) (by decide +kernel)) (by decide +kernel) (by decide +kernel) hS hl.1 dX1_gear_49 dX1_gear_52 dX1_gear_53 dX1_gear_55 dX1_gear_58 (Nat.le_of_ble_eq_true rfl) (Nat.le_of_ble_eq_true rfl) (Nat.le_of_ble_eq_true rfl) (Nat.le_of_ble_eq_true rfl) (Nat.le_of_ble_eq_true rfl) (Nat.le_of_ble_eq_true rfl) (by simp only [k_oG, ho_2, if_neg c_13, if_neg c_24, if_pos c_46, Option.none_or, Option.some_or, reduceIte]) hP
    · exact thr x_IAE "a gear has 20 to 40 teeth" 47 49 51 _ _ 27 _ _ _ _ cu_th_IAE (hts (.classLink RX1 47 x_IAE) (by decide +kernel)) (hts (.initialized x_IAE) (by decide +kernel)) (by decide +kernel) (by decide +kernel) hS hl.1 dX1_gear_27 dX1_gear_30 dX1_gear_31 dX1_gear_33 dX1_gear_36 (Nat.le_of_ble_eq_true rfl) (Nat.le_of_ble_eq_true rfl) (Nat.le_of_ble_eq_true rfl) (Nat.le_of_ble_eq_true rfl) (Nat.le_of_ble_eq_true rfl) (Nat.le_of_ble_eq_true rfl) (by simp only [k_oG, ho_2, if_neg c_13, if_pos c_24, Option.none_or, Option.some_or, reduceIte]) hP

set_option maxHeartbeats 4000000 in
set_option maxRecDepth 100000 in
theorem m_X1_set (l : Launch) (hlf : l.stackTraces = false) (D : va_G) (C : Nat → ClassId) (a : Nat → Nat) (N : Nat) (hN : N ≤ 10) (mn : Int32) (K P : Nat → Nat → Int32) (v1 : Int32) (v2 : Int32) : cu_XI l D C yX1_set wsX1_set { frames := 7, cells := 2, slots := 12, locals := 103 } [.ref (a 0), .int v1, .int v2] (cu_cw C a (nI N) mn K P) (cu_cw C a (nI N) mn (va_up K v1.toNatClampNeg (upd (upd (K v1.toNatClampNeg) 0 v2) 1 0)) P) ((k_oC N v1).or (k_oT v2)) (k_off (K v1.toNatClampNeg) mn) 2 12 := by
  refine cu_openXI (cc := cX1_set) (maxL := 4) (ty := .int) hlf (by decide) rfl rfl (Nat.le_of_ble_eq_true rfl) ?_
  intro p e s m args below meth c A Z H0 ls e0 hx hb hml hts hown hnm hG hP hD hS hA hl hT fin thr prop
  have hK := hG.1
  have hl : lv_has ls 4 [(0, .ref (a 0)), (1, .int v1), (2, .int v2)] := hl
  have hiX1 : ∀ w ∈ wsX10, w ∈ wsX1_set := by decide +kernel
  refine lv_aload_n hx hb dX1_set_0 rfl (lv_at hl 0 rfl) ?_
  refine lv_iload_n hx hb dX1_set_1 rfl (lv_at hl 1 rfl) ?_
  have sp := cu_sp.all (W0 := (cu_cw C a (nI N) mn K P)) (W1 := (cu_cw C a (nI N) mn K P)) rfl
  refine cu_callXV (vx_runV (As := [.int v1]) (rest := []) ⟨hx, hb, hml, hown, hts⟩ ((m_X1_checkClock l hlf D C a N hN mn K P v1) H0.size) (cwV 1 hts gX1_set_X1_checkClock rfl rfl rfl (by decide +kernel) ⟨Nat.le_of_ble_eq_true rfl, Nat.le_of_ble_eq_true rfl⟩) (cu_preXV (ci := 1) sp hG hP hD hT hS hA rfl rfl) rfl rfl hl.1 rfl (lv_room (Nat.le_of_ble_eq_true rfl)) dX1_set_2 ⟨Nat.le_of_ble_eq_true rfl, Nat.le_of_ble_eq_true rfl⟩) sp hP hD hS hA (fun E ce q9 H locs hoE hP hS hce hcv hcl => prop E ce q9 H locs _ _ _ _ _ (by simp only [hoE, Option.none_or, Option.some_or, reduceIte]) hP hS hce hcv hcl (Nat.le_of_ble_eq_true rfl) (Nat.le_of_ble_eq_true rfl)) (fun H locs ho_2 hP hD hS => ?_)
  obtain ⟨i, hiN, rfl⟩ := k_oC_in hN ho_2
  have hi : i < 10 := by omega
  have hcl9 : (nI i).toNatClampNeg = i := nI_clamp (by omega)
  have hP : va_P D vwCl (cu_cw C a (nI N) mn K P) H := hP
  have hD : va_D A (cu_cw C a (nI N) mn K P) := hD
  refine lv_iload_n hx hb dX1_set_5 rfl (lv_at hl 2 rfl) ?_
  have sp := cu_sp.nil (W0 := (cu_cw C a (nI N) mn K P))
  refine cu_callXV (vx_runS (As := [.int v2]) (rest := []) ⟨hx, hb, hml, hown, hts⟩ ((m_X1_checkTime l hlf D C v2) H.size) (va_cwS 1 hts gX1_set_X1_checkTime rfl rfl rfl (by decide +kernel) ⟨Nat.le_of_ble_eq_true rfl, Nat.le_of_ble_eq_true rfl⟩) (cu_preXS sp hG hP hD hT hS hA) rfl rfl hl.1 rfl (lv_room (Nat.le_of_ble_eq_true rfl)) dX1_set_6 ⟨Nat.le_of_ble_eq_true rfl, Nat.le_of_ble_eq_true rfl⟩) sp hP hD hS hA (fun E ce q9 H locs hoE hP hS hce hcv hcl => prop E ce q9 H locs _ _ _ _ _ (by simp only [ho_2, hoE, Option.none_or, Option.some_or, reduceIte]) hP hS hce hcv hcl (Nat.le_of_ble_eq_true rfl) (Nat.le_of_ble_eq_true rfl)) (fun H locs ho_6 hP hD hS => ?_)
  refine lv_aload_n hx hb dX1_set_9 rfl (lv_at hl 0 rfl) ?_
  refine va_get (D := D) (ci := 1) (v := .ref (a 1)) (C := RX1) (T := TX1) (N := 4) hx hb hts hiX1 hown hK hP 0 rfl rfl 0 (by decide) (hts (.fieldLink RX1 11 "CuckooShop" "clocks" "[LCuckooShop$Clock;") (by decide +kernel)) (fun _ h9 => h9) rfl dX1_set_10 ?_
  refine lv_iload_n hx hb dX1_set_13 rfl (lv_at hl 1 rfl) ?_
  refine cu_aaldK hi hx hb hK hP dX1_set_14 ?_
  refine lv_aload_n hx hb dX1_set_15 rfl (lv_at hl 0 rfl) ?_
  refine va_get (D := D) (ci := 1) (v := .int mn) (C := RX1) (T := TX1) (N := 4) hx hb hts hiX1 hown hK hP 0 rfl rfl 3 (by decide) (hts (.fieldLink RX1 23 "CuckooShop" "minute" "I") (by decide +kernel)) (fun _ h9 => h9) rfl dX1_set_16 ?_
  have sp := cu_sp.rd (cu_cw_K (C := C) (a := a) (n := (nI N)) (m := mn) (K := K) (P := P) hi)
  refine cu_callI (va_runS (As := [.ref (a (3 + i)), .int mn]) (rest := []) ⟨hx, hb, hml, hown, hts⟩ ((m_X1_offOf l D C (a (3 + i)) (K i) mn) H.size) (va_cwS 2 hts gX1_set_X1_offOf rfl rfl rfl (by decide +kernel) ⟨Nat.le_of_ble_eq_true rfl, Nat.le_of_ble_eq_true rfl⟩) (cu_preS sp hG hP hD) rfl rfl hl.1 rfl (lv_room (Nat.le_of_ble_eq_true rfl)) dX1_set_19 ⟨Nat.le_of_ble_eq_true rfl, Nat.le_of_ble_eq_true rfl⟩) sp hP hD hS hA (fun H locs hP hD hS => ?_)
  refine lv_istore_n (lv' := [(3, .int (k_off (K i) mn)), (0, .ref (a 0)), (1, .int (nI i)), (2, .int v2)]) hx hb dX1_set_22 rfl hl (by decide) rfl (fun ls hl => ?_)
  refine lv_aload_n hx hb dX1_set_23 rfl (lv_at hl 1 rfl) ?_
  refine va_get (D := D) (ci := 1) (v := .ref (a 1)) (C := RX1) (T := TX1) (N := 4) hx hb hts hiX1 hown hK hP 0 rfl rfl 0 (by decide) (hts (.fieldLink RX1 11 "CuckooShop" "clocks" "[LCuckooShop$Clock;") (by decide +kernel)) (fun _ h9 => h9) rfl dX1_set_24 ?_
  refine lv_iload_n hx hb dX1_set_27 rfl (lv_at hl 2 rfl) ?_
  refine cu_aaldK hi hx hb hK hP dX1_set_28 ?_
  refine lv_iload_n hx hb dX1_set_29 rfl (lv_at hl 3 rfl) ?_
  have sp := cu_spK (C := C) (a := a) (n := (nI N)) (m := mn) (K := K) (P := P) hi (upd (upd (K i) 0 v2) 1 0)
  refine cu_callV (va_runVN (As := [.int v2]) (rest := []) ⟨hx, hb, hml, hown, hts⟩ ((m_X0_putHands l D C (a (3 + i)) (K i) v2) H.size) ⟨(va_cnB 1 hts gX1_set_X0_putHands_n37 rfl rfl rfl (hG.2.1 (37, yX0_putHands) (by decide +kernel)) (hts (.initialized RX0) (by decide +kernel)) (by decide +kernel) ⟨Nat.le_of_ble_eq_true rfl, Nat.le_of_ble_eq_true rfl⟩), hts (.instanceMethod yX0_putHands) (by decide +kernel), hts (.selects RX0 yX0_putHands yX0_putHands) (by decide +kernel)⟩ (cu_preV (ci := 0) sp hG hP hD rfl rfl) rfl rfl hl.1 rfl (lv_room (Nat.le_of_ble_eq_true rfl)) dX1_set_30 ⟨Nat.le_of_ble_eq_true rfl, Nat.le_of_ble_eq_true rfl⟩) sp hP hD hS hA (fun H locs hP hD hS => ?_)
  have hP : va_P D vwCl (cu_cw C a (nI N) mn (va_up K i (upd (upd (K i) 0 v2) 1 0)) P) H := hP
  have hD : va_D A (cu_cw C a (nI N) mn (va_up K i (upd (upd (K i) 0 v2) 1 0)) P) := hD
  refine lv_iload_n hx hb dX1_set_33 rfl (lv_at hl 0 rfl) ?_
  refine W.widen (k := 2) (n := 12) (Nat.le_of_ble_eq_true rfl) (Nat.le_of_ble_eq_true rfl) ?_
  exact fin _ _ _ _ _ rfl (by simp only [ho_2, ho_6, Option.none_or, Option.some_or, reduceIte]) (by simp only [hcl9]) (by rw [hcl9]; exact hP) hS dX1_set_34

set_option maxHeartbeats 4000000 in
set_option maxRecDepth 100000 in
theorem m_X1_shut (l : Launch) (hlf : l.stackTraces = false) (D : va_G) (C : Nat → ClassId) (a : Nat → Nat) (N : Nat) (hN : N ≤ 10) (mn : Int32) (K P : Nat → Nat → Int32) (v1 : Int32) (v2 : Int32) (v3 : Int32) : cu_XI l D C yX1_shut wsX1_shut { frames := 7, cells := 3, slots := 18, locals := 103 } [.ref (a 0), .int v1, .int v2, .int v3] (cu_cw C a (nI N) mn K P) (cu_cw C a (nI N) mn (va_up K v1.toNatClampNeg (upd (upd (K v1.toNatClampNeg) 12 v2) 13 v3)) P) ((k_oC N v1).or (k_oS v2 v3)) (K v1.toNatClampNeg 12) 3 18 := by
  refine cu_openXI (cc := cX1_shut) (maxL := 4) (ty := .int) hlf (by decide) rfl rfl (Nat.le_of_ble_eq_true rfl) ?_
  intro p e s m args below meth c A Z H0 ls e0 hx hb hml hts hown hnm hG hP hD hS hA hl hT fin thr prop
  have hK := hG.1
  have hl : lv_has ls 4 [(0, .ref (a 0)), (1, .int v1), (2, .int v2), (3, .int v3)] := hl
  have hiX1 : ∀ w ∈ wsX10, w ∈ wsX1_shut := by decide +kernel
  refine lv_aload_n hx hb dX1_shut_0 rfl (lv_at hl 0 rfl) ?_
  refine lv_iload_n hx hb dX1_shut_1 rfl (lv_at hl 1 rfl) ?_
  have sp := cu_sp.all (W0 := (cu_cw C a (nI N) mn K P)) (W1 := (cu_cw C a (nI N) mn K P)) rfl
  refine cu_callXV (vx_runV (As := [.int v1]) (rest := []) ⟨hx, hb, hml, hown, hts⟩ ((m_X1_checkClock l hlf D C a N hN mn K P v1) H0.size) (cwV 1 hts gX1_shut_X1_checkClock rfl rfl rfl (by decide +kernel) ⟨Nat.le_of_ble_eq_true rfl, Nat.le_of_ble_eq_true rfl⟩) (cu_preXV (ci := 1) sp hG hP hD hT hS hA rfl rfl) rfl rfl hl.1 rfl (lv_room (Nat.le_of_ble_eq_true rfl)) dX1_shut_2 ⟨Nat.le_of_ble_eq_true rfl, Nat.le_of_ble_eq_true rfl⟩) sp hP hD hS hA (fun E ce q9 H locs hoE hP hS hce hcv hcl => prop E ce q9 H locs _ _ _ _ _ (by simp only [k_oS, k_oS3, hoE, Option.none_or, Option.some_or, reduceIte]) hP hS hce hcv hcl (Nat.le_of_ble_eq_true rfl) (Nat.le_of_ble_eq_true rfl)) (fun H locs ho_2 hP hD hS => ?_)
  obtain ⟨i, hiN, rfl⟩ := k_oC_in hN ho_2
  have hi : i < 10 := by omega
  have hcl9 : (nI i).toNatClampNeg = i := nI_clamp (by omega)
  have hP : va_P D vwCl (cu_cw C a (nI N) mn K P) H := hP
  have hD : va_D A (cu_cw C a (nI N) mn K P) := hD
  refine lv_iload_n hx hb dX1_shut_5 rfl (lv_at hl 2 rfl) ?_
  refine lv_iconst (v := -1) hx hb dX1_shut_6 (by decide) ?_
  refine lv_icmp_eq (tgt := 14) hx hb dX1_shut_7 (by decide) (fun c_7 => ?_) (fun c_7 => ?_)
  · refine lv_iload_n hx hb dX1_shut_14 rfl (lv_at hl 3 rfl) ?_
    have sp := cu_sp.nil (W0 := (cu_cw C a (nI N) mn K P))
    refine cu_callXV (vx_runS (As := [.int v3]) (rest := []) ⟨hx, hb, hml, hown, hts⟩ ((m_X1_checkTime l hlf D C v3) H.size) (va_cwS 1 hts gX1_shut_X1_checkTime rfl rfl rfl (by decide +kernel) ⟨Nat.le_of_ble_eq_true rfl, Nat.le_of_ble_eq_true rfl⟩) (cu_preXS sp hG hP hD hT hS hA) rfl rfl hl.1 rfl (lv_room (Nat.le_of_ble_eq_true rfl)) dX1_shut_15 ⟨Nat.le_of_ble_eq_true rfl, Nat.le_of_ble_eq_true rfl⟩) sp hP hD hS hA (fun E ce q9 H locs hoE hP hS hce hcv hcl => prop E ce q9 H locs _ _ _ _ _ (by simp only [k_oS, k_oS3, ho_2, hoE, if_pos c_7, Option.none_or, Option.some_or, reduceIte]) hP hS hce hcv hcl (Nat.le_of_ble_eq_true rfl) (Nat.le_of_ble_eq_true rfl)) (fun H locs ho_15 hP hD hS => ?_)
    refine lv_iload_n hx hb dX1_shut_18 rfl (lv_at hl 2 rfl) ?_
    refine lv_iconst (v := -1) hx hb dX1_shut_19 (by decide) ?_
    refine lv_icmp_ne (tgt := 37) hx hb dX1_shut_20 (by decide) (fun c_20 => absurd c_7 c_20) (fun c_20 => ?_)
    refine lv_iload_n hx hb dX1_shut_23 rfl (lv_at hl 3 rfl) ?_
    refine lv_if_eq (tgt := 37) hx hb dX1_shut_24 (by decide) (fun c_24 => ?_) (fun c_24 => ?_)
    · refine lv_aload_n hx hb dX1_shut_37 rfl (lv_at hl 0 rfl) ?_
      refine va_get (D := D) (ci := 1) (v := .ref (a 1)) (C := RX1) (T := TX1) (N := 4) hx hb hts hiX1 hown hK hP 0 rfl rfl 0 (by decide) (hts (.fieldLink RX1 11 "CuckooShop" "clocks" "[LCuckooShop$Clock;") (by decide +kernel)) (fun _ h9 => h9) rfl dX1_shut_38 ?_
      refine lv_iload_n hx hb dX1_shut_41 rfl (lv_at hl 1 rfl) ?_
      refine cu_aaldK hi hx hb hK hP dX1_shut_42 ?_
      refine lv_iload_n hx hb dX1_shut_43 rfl (lv_at hl 2 rfl) ?_
      refine lv_iload_n hx hb dX1_shut_44 rfl (lv_at hl 3 rfl) ?_
      have sp := cu_spK (C := C) (a := a) (n := (nI N)) (m := mn) (K := K) (P := P) hi (upd (upd (K i) 12 v2) 13 v3)
      refine cu_callI (va_runVN (As := [.int v2, .int v3]) (rest := []) ⟨hx, hb, hml, hown, hts⟩ ((m_X0_silence l D C (a (3 + i)) (K i) v2 v3) H.size) ⟨(va_cnB 2 hts gX1_shut_X0_silence_n82 rfl rfl rfl (hG.2.1 (82, yX0_silence) (by decide +kernel)) (hts (.initialized RX0) (by decide +kernel)) (by decide +kernel) ⟨Nat.le_of_ble_eq_true rfl, Nat.le_of_ble_eq_true rfl⟩), hts (.instanceMethod yX0_silence) (by decide +kernel), hts (.selects RX0 yX0_silence yX0_silence) (by decide +kernel)⟩ (cu_preV (ci := 0) sp hG hP hD rfl rfl) rfl rfl hl.1 rfl (lv_room (Nat.le_of_ble_eq_true rfl)) dX1_shut_45 ⟨Nat.le_of_ble_eq_true rfl, Nat.le_of_ble_eq_true rfl⟩) sp hP hD hS hA (fun H locs hP hD hS => ?_)
      have hP : va_P D vwCl (cu_cw C a (nI N) mn (va_up K i (upd (upd (K i) 12 v2) 13 v3)) P) H := hP
      have hD : va_D A (cu_cw C a (nI N) mn (va_up K i (upd (upd (K i) 12 v2) 13 v3)) P) := hD
      refine W.widen (k := 3) (n := 18) (Nat.le_of_ble_eq_true rfl) (Nat.le_of_ble_eq_true rfl) ?_
      exact fin _ _ _ _ _ rfl (by simp only [k_oS, k_oS3, ho_2, ho_15, if_pos c_7, if_pos c_20, if_pos c_24, Option.none_or, Option.some_or, reduceIte]) (by simp only [hcl9]) (by rw [hcl9]; exact hP) hS dX1_shut_48
    · exact thr x_IAE "till is 0 if from is -1" 47 80 51 _ _ 27 _ _ _ _ cu_th_IAE (hts (.classLink RX1 47 x_IAE) (by decide +kernel)) (hts (.initialized x_IAE) (by decide +kernel)) (by decide +kernel) (by decide +kernel) hS hl.1 dX1_shut_27 dX1_shut_30 dX1_shut_31 dX1_shut_33 dX1_shut_36 (Nat.le_of_ble_eq_true rfl) (Nat.le_of_ble_eq_true rfl) (Nat.le_of_ble_eq_true rfl) (Nat.le_of_ble_eq_true rfl) (Nat.le_of_ble_eq_true rfl) (Nat.le_of_ble_eq_true rfl) (by simp only [k_oS, k_oS3, ho_2, ho_15, if_pos c_7, if_pos c_20, if_neg c_24, Option.none_or, Option.some_or, reduceIte]) hP
  · refine lv_iload_n hx hb dX1_shut_10 rfl (lv_at hl 2 rfl) ?_
    have sp := cu_sp.nil (W0 := (cu_cw C a (nI N) mn K P))
    refine cu_callXV (vx_runS (As := [.int v2]) (rest := []) ⟨hx, hb, hml, hown, hts⟩ ((m_X1_checkTime l hlf D C v2) H.size) (va_cwS 1 hts gX1_shut_X1_checkTime rfl rfl rfl (by decide +kernel) ⟨Nat.le_of_ble_eq_true rfl, Nat.le_of_ble_eq_true rfl⟩) (cu_preXS sp hG hP hD hT hS hA) rfl rfl hl.1 rfl (lv_room (Nat.le_of_ble_eq_true rfl)) dX1_shut_11 ⟨Nat.le_of_ble_eq_true rfl, Nat.le_of_ble_eq_true rfl⟩) sp hP hD hS hA (fun E ce q9 H locs hoE hP hS hce hcv hcl => prop E ce q9 H locs _ _ _ _ _ (by simp only [k_oS, k_oS3, ho_2, hoE, if_neg c_7, Option.none_or, Option.some_or, reduceIte]) hP hS hce hcv hcl (Nat.le_of_ble_eq_true rfl) (Nat.le_of_ble_eq_true rfl)) (fun H locs ho_11 hP hD hS => ?_)
    refine lv_iload_n hx hb dX1_shut_14 rfl (lv_at hl 3 rfl) ?_
    have sp := cu_sp.nil (W0 := (cu_cw C a (nI N) mn K P))
    refine cu_callXV (vx_runS (As := [.int v3]) (rest := []) ⟨hx, hb, hml, hown, hts⟩ ((m_X1_checkTime l hlf D C v3) H.size) (va_cwS 1 hts gX1_shut_X1_checkTime rfl rfl rfl (by decide +kernel) ⟨Nat.le_of_ble_eq_true rfl, Nat.le_of_ble_eq_true rfl⟩) (cu_preXS sp hG hP hD hT hS hA) rfl rfl hl.1 rfl (lv_room (Nat.le_of_ble_eq_true rfl)) dX1_shut_15 ⟨Nat.le_of_ble_eq_true rfl, Nat.le_of_ble_eq_true rfl⟩) sp hP hD hS hA (fun E ce q9 H locs hoE hP hS hce hcv hcl => prop E ce q9 H locs _ _ _ _ _ (by simp only [k_oS, k_oS3, ho_2, ho_11, hoE, if_neg c_7, Option.none_or, Option.some_or, reduceIte]) hP hS hce hcv hcl (Nat.le_of_ble_eq_true rfl) (Nat.le_of_ble_eq_true rfl)) (fun H locs ho_15 hP hD hS => ?_)
    refine lv_iload_n hx hb dX1_shut_18 rfl (lv_at hl 2 rfl) ?_
    refine lv_iconst (v := -1) hx hb dX1_shut_19 (by decide) ?_
    refine lv_icmp_ne (tgt := 37) hx hb dX1_shut_20 (by decide) (fun c_20 => ?_) (fun c_20 => absurd c_20 c_7)
    refine lv_aload_n hx hb dX1_shut_37 rfl (lv_at hl 0 rfl) ?_
    refine va_get (D := D) (ci := 1) (v := .ref (a 1)) (C := RX1) (T := TX1) (N := 4) hx hb hts hiX1 hown hK hP 0 rfl rfl 0 (by decide) (hts (.fieldLink RX1 11 "CuckooShop" "clocks" "[LCuckooShop$Clock;") (by decide +kernel)) (fun _ h9 => h9) rfl dX1_shut_38 ?_
    refine lv_iload_n hx hb dX1_shut_41 rfl (lv_at hl 1 rfl) ?_
    refine cu_aaldK hi hx hb hK hP dX1_shut_42 ?_
    refine lv_iload_n hx hb dX1_shut_43 rfl (lv_at hl 2 rfl) ?_
    refine lv_iload_n hx hb dX1_shut_44 rfl (lv_at hl 3 rfl) ?_
    have sp := cu_spK (C := C) (a := a) (n := (nI N)) (m := mn) (K := K) (P := P) hi (upd (upd (K i) 12 v2) 13 v3)
    refine cu_callI (va_runVN (As := [.int v2, .int v3]) (rest := []) ⟨hx, hb, hml, hown, hts⟩ ((m_X0_silence l D C (a (3 + i)) (K i) v2 v3) H.size) ⟨(va_cnB 2 hts gX1_shut_X0_silence_n82 rfl rfl rfl (hG.2.1 (82, yX0_silence) (by decide +kernel)) (hts (.initialized RX0) (by decide +kernel)) (by decide +kernel) ⟨Nat.le_of_ble_eq_true rfl, Nat.le_of_ble_eq_true rfl⟩), hts (.instanceMethod yX0_silence) (by decide +kernel), hts (.selects RX0 yX0_silence yX0_silence) (by decide +kernel)⟩ (cu_preV (ci := 0) sp hG hP hD rfl rfl) rfl rfl hl.1 rfl (lv_room (Nat.le_of_ble_eq_true rfl)) dX1_shut_45 ⟨Nat.le_of_ble_eq_true rfl, Nat.le_of_ble_eq_true rfl⟩) sp hP hD hS hA (fun H locs hP hD hS => ?_)
    have hP : va_P D vwCl (cu_cw C a (nI N) mn (va_up K i (upd (upd (K i) 12 v2) 13 v3)) P) H := hP
    have hD : va_D A (cu_cw C a (nI N) mn (va_up K i (upd (upd (K i) 12 v2) 13 v3)) P) := hD
    refine W.widen (k := 3) (n := 18) (Nat.le_of_ble_eq_true rfl) (Nat.le_of_ble_eq_true rfl) ?_
    exact fin _ _ _ _ _ rfl (by simp only [k_oS, k_oS3, ho_2, ho_11, ho_15, if_neg c_7, if_neg c_20, Option.none_or, Option.some_or, reduceIte]) (by simp only [hcl9]) (by rw [hcl9]; exact hP) hS dX1_shut_48

set_option maxHeartbeats 4000000 in
set_option maxRecDepth 100000 in
theorem m_X1_count (l : Launch) (hlf : l.stackTraces = false) (D : va_G) (C : Nat → ClassId) (a : Nat → Nat) (N : Nat) (hN : N ≤ 10) (mn : Int32) (K P : Nat → Nat → Int32) (v1 : Int32) : cu_XI l D C yX1_count wsX1_count { frames := 6, cells := 1, slots := 6, locals := 109 } [.ref (a 0), .int v1] (cu_cw C a (nI N) mn K P) (cu_cw C a (nI N) mn K P) (k_oY v1) (k_tally N K mn v1) 1 6 := by
  refine cu_openXI (cc := cX1_count) (maxL := 2) (ty := .int) hlf (by decide) rfl rfl (Nat.le_of_ble_eq_true rfl) ?_
  intro p e s m args below meth c A Z H0 ls e0 hx hb hml hts hown hnm hG hP hD hS hA hl hT fin thr prop
  have hK := hG.1
  have hl : lv_has ls 2 [(0, .ref (a 0)), (1, .int v1)] := hl
  refine lv_iload_n hx hb dX1_count_0 rfl (lv_at hl 1 rfl) ?_
  refine lv_iconst (v := 0) hx hb dX1_count_1 (by decide) ?_
  refine lv_bipush (v := 7) hx hb dX1_count_2 (by decide) ?_
  have sp := cu_sp.nil (W0 := (cu_cw C a (nI N) mn K P))
  refine cu_callI (va_runS (As := [.int v1, .int 0, .int 7]) (rest := []) ⟨hx, hb, hml, hown, hts⟩ ((m_X1_isWithin l D C v1 0 7) H0.size) (va_cwS 3 hts gX1_count_X1_isWithin rfl rfl rfl (by decide +kernel) ⟨Nat.le_of_ble_eq_true rfl, Nat.le_of_ble_eq_true rfl⟩) (cu_preS sp hG hP hD) rfl rfl hl.1 rfl (lv_room (Nat.le_of_ble_eq_true rfl)) dX1_count_4 ⟨Nat.le_of_ble_eq_true rfl, Nat.le_of_ble_eq_true rfl⟩) sp hP hD hS hA (fun H locs hP hD hS => ?_)
  refine lv_if_ne (tgt := 20) hx hb dX1_count_7 (by decide) (fun c_7 => ?_) (fun c_7 => ?_)
  · refine lv_aload_n hx hb dX1_count_20 rfl (lv_at hl 0 rfl) ?_
    refine lv_iload_n hx hb dX1_count_21 rfl (lv_at hl 1 rfl) ?_
    have sp := cu_sp.all (W0 := (cu_cw C a (nI N) mn K P)) (W1 := (cu_cw C a (nI N) mn K P)) rfl
    refine cu_callI (va_runV (As := [.int v1]) (rest := []) ⟨hx, hb, hml, hown, hts⟩ ((m_X1_tally l D C a N hN mn K P v1) H.size) (cwV 1 hts gX1_count_X1_tally rfl rfl rfl (by decide +kernel) ⟨Nat.le_of_ble_eq_true rfl, Nat.le_of_ble_eq_true rfl⟩) (cu_preV (ci := 1) sp hG hP hD rfl rfl) rfl rfl hl.1 rfl (lv_room (Nat.le_of_ble_eq_true rfl)) dX1_count_22 ⟨Nat.le_of_ble_eq_true rfl, Nat.le_of_ble_eq_true rfl⟩) sp hP hD hS hA (fun H locs hP hD hS => ?_)
    have hP : va_P D vwCl (cu_cw C a (nI N) mn K P) H := hP
    have hD : va_D A (cu_cw C a (nI N) mn K P) := hD
    refine W.widen (k := 1) (n := 6) (Nat.le_of_ble_eq_true rfl) (Nat.le_of_ble_eq_true rfl) ?_
    exact fin _ _ _ _ _ rfl (by simp only [k_oY, if_neg c_7, Option.none_or, Option.some_or, reduceIte]) (by rfl) hP hS dX1_count_25
  · exact thr x_IOB "what is counted is 0 to 7" 86 95 90 _ _ 10 _ _ _ _ cu_th_IOB (hts (.classLink RX1 86 x_IOB) (by decide +kernel)) (hts (.initialized x_IOB) (by decide +kernel)) (by decide +kernel) (by decide +kernel) hS hl.1 dX1_count_10 dX1_count_13 dX1_count_14 dX1_count_16 dX1_count_19 (Nat.le_of_ble_eq_true rfl) (Nat.le_of_ble_eq_true rfl) (Nat.le_of_ble_eq_true rfl) (Nat.le_of_ble_eq_true rfl) (Nat.le_of_ble_eq_true rfl) (Nat.le_of_ble_eq_true rfl) (by simp only [k_oY, if_pos c_7, Option.none_or, Option.some_or, reduceIte]) hP
end
section
set_option maxHeartbeats 4000000 in
set_option maxRecDepth 100000 in
theorem m_X1_come (l : Launch) (hlf : l.stackTraces = false) (D : va_G) (C : Nat → ClassId) (a : Nat → Nat) (N : Nat) (hN : N ≤ 10) (mn : Int32) (K P : Nat → Nat → Int32) (v1 : Int32) : cu_XI l D C yX1_come wsX1_come { frames := 7, cells := 2, slots := 12, locals := 102 } [.ref (a 0), .int v1] (cu_cw C a (nI N) mn K P) (cu_cw C a (nI (N + 1)) mn (va_up K N (upd (upd (K N) 0 v1) 1 0)) P) ((k_oT v1).or (k_oN N)) (nI N) 2 12 := by
  refine cu_openXI (cc := cX1_come) (maxL := 2) (ty := .int) hlf (by decide) rfl rfl (Nat.le_of_ble_eq_true rfl) ?_
  intro p e s m args below meth c A Z H0 ls e0 hx hb hml hts hown hnm hG hP hD hS hA hl hT fin thr prop
  have hK := hG.1
  have hl : lv_has ls 2 [(0, .ref (a 0)), (1, .int v1)] := hl
  have hiX1 : ∀ w ∈ wsX10, w ∈ wsX1_come := by decide +kernel
  refine lv_iload_n hx hb dX1_come_0 rfl (lv_at hl 1 rfl) ?_
  have sp := cu_sp.nil (W0 := (cu_cw C a (nI N) mn K P))
  refine cu_callXV (vx_runS (As := [.int v1]) (rest := []) ⟨hx, hb, hml, hown, hts⟩ ((m_X1_checkTime l hlf D C v1) H0.size) (va_cwS 1 hts gX1_come_X1_checkTime rfl rfl rfl (by decide +kernel) ⟨Nat.le_of_ble_eq_true rfl, Nat.le_of_ble_eq_true rfl⟩) (cu_preXS sp hG hP hD hT hS hA) rfl rfl hl.1 rfl (lv_room (Nat.le_of_ble_eq_true rfl)) dX1_come_1 ⟨Nat.le_of_ble_eq_true rfl, Nat.le_of_ble_eq_true rfl⟩) sp hP hD hS hA (fun E ce q9 H locs hoE hP hS hce hcv hcl => prop E ce q9 H locs _ _ _ _ _ (by simp only [k_oN, hoE, Option.none_or, Option.some_or, reduceIte]) hP hS hce hcv hcl (Nat.le_of_ble_eq_true rfl) (Nat.le_of_ble_eq_true rfl)) (fun H locs ho_1 hP hD hS => ?_)
  refine lv_aload_n hx hb dX1_come_4 rfl (lv_at hl 0 rfl) ?_
  refine va_get (D := D) (ci := 1) (v := .int (nI N)) (C := RX1) (T := TX1) (N := 4) hx hb hts hiX1 hown hK hP 0 rfl rfl 2 (by decide) (hts (.fieldLink RX1 19 "CuckooShop" "present" "I") (by decide +kernel)) (fun _ h9 => h9) rfl dX1_come_5 ?_
  refine lv_bipush (v := 10) hx hb dX1_come_8 (by decide) ?_
  refine lv_icmp_lt (tgt := 23) hx hb dX1_come_10 (by decide) (fun c_10 => ?_) (fun c_10 => ?_)
  · refine lv_aload_n hx hb dX1_come_23 rfl (lv_at hl 0 rfl) ?_
    refine va_get (D := D) (ci := 1) (v := .ref (a 1)) (C := RX1) (T := TX1) (N := 4) hx hb hts hiX1 hown hK hP 0 rfl rfl 0 (by decide) (hts (.fieldLink RX1 11 "CuckooShop" "clocks" "[LCuckooShop$Clock;") (by decide +kernel)) (fun _ h9 => h9) rfl dX1_come_24 ?_
    have hN : N < 10 := (nI_ltI (b := 10) (by omega) (by decide)).mp c_10
    refine lv_aload_n hx hb dX1_come_27 rfl (lv_at hl 0 rfl) ?_
    refine va_get (D := D) (ci := 1) (v := .int (nI N)) (C := RX1) (T := TX1) (N := 4) hx hb hts hiX1 hown hK hP 0 rfl rfl 2 (by decide) (hts (.fieldLink RX1 19 "CuckooShop" "present" "I") (by decide +kernel)) (fun _ h9 => h9) rfl dX1_come_28 ?_
    refine cu_aaldK hN hx hb hK hP dX1_come_31 ?_
    refine lv_iload_n hx hb dX1_come_32 rfl (lv_at hl 1 rfl) ?_
    have sp := cu_spK (C := C) (a := a) (n := (nI N)) (m := mn) (K := K) (P := P) hN (upd (upd (K N) 0 v1) 1 0)
    refine cu_callV (va_runVN (As := [.int v1]) (rest := []) ⟨hx, hb, hml, hown, hts⟩ ((m_X0_putHands l D C (a (3 + N)) (K N) v1) H.size) ⟨(va_cnB 1 hts gX1_come_X0_putHands_n37 rfl rfl rfl (hG.2.1 (37, yX0_putHands) (by decide +kernel)) (hts (.initialized RX0) (by decide +kernel)) (by decide +kernel) ⟨Nat.le_of_ble_eq_true rfl, Nat.le_of_ble_eq_true rfl⟩), hts (.instanceMethod yX0_putHands) (by decide +kernel), hts (.selects RX0 yX0_putHands yX0_putHands) (by decide +kernel)⟩ (cu_preV (ci := 0) sp hG hP hD rfl rfl) rfl rfl hl.1 rfl (lv_room (Nat.le_of_ble_eq_true rfl)) dX1_come_33 ⟨Nat.le_of_ble_eq_true rfl, Nat.le_of_ble_eq_true rfl⟩) sp hP hD hS hA (fun H locs hP hD hS => ?_)
    have hP : va_P D vwCl (cu_cw C a (nI N) mn (va_up K N (upd (upd (K N) 0 v1) 1 0)) P) H := hP
    have hD : va_D A (cu_cw C a (nI N) mn (va_up K N (upd (upd (K N) 0 v1) 1 0)) P) := hD
    refine lv_aload_n hx hb dX1_come_36 rfl (lv_at hl 0 rfl) ?_
    refine lv_dup hx hb dX1_come_37 rfl ?_
    refine va_get (D := D) (ci := 1) (v := .int (nI N)) (C := RX1) (T := TX1) (N := 4) hx hb hts hiX1 hown hK hP 0 rfl rfl 2 (by decide) (hts (.fieldLink RX1 19 "CuckooShop" "present" "I") (by decide +kernel)) (fun _ h9 => h9) rfl dX1_come_38 ?_
    refine lv_iconst (v := 1) hx hb dX1_come_41 (by decide) ?_
    refine lv_iadd hx hb dX1_come_42 ?_
    refine cu_top (x' := nI (N + 1)) (nI_1 N) ?_
    refine va_put (D := D) (ci := 1) (v := .int (nI (N + 1))) (ty := .int) (C := RX1) (T := TX1) (N := 4) hx hb hts hiX1 tyX1 tyX1_ok nmX1 hown hK hP hD hS 0 rfl rfl 2 (by decide) (hts (.fieldLink RX1 19 "CuckooShop" "present" "I") (by decide +kernel)) (fun _ h9 => h9) rfl (by decide +kernel) rfl rfl (Nat.le_of_ble_eq_true rfl) dX1_come_43 (fun H locs hP hD hS => ?_)
    have hP : va_P D vwCl (cu_cw C a (nI (N + 1)) mn (va_up K N (upd (upd (K N) 0 v1) 1 0)) P) H := hP
    have hD : va_D A (cu_cw C a (nI (N + 1)) mn (va_up K N (upd (upd (K N) 0 v1) 1 0)) P) := hD
    refine lv_aload_n hx hb dX1_come_46 rfl (lv_at hl 0 rfl) ?_
    refine va_get (D := D) (ci := 1) (v := .int (nI (N + 1))) (C := RX1) (T := TX1) (N := 4) hx hb hts hiX1 hown hK hP 0 rfl rfl 2 (by decide) (hts (.fieldLink RX1 19 "CuckooShop" "present" "I") (by decide +kernel)) (fun _ h9 => h9) rfl dX1_come_47 ?_
    refine lv_iconst (v := 1) hx hb dX1_come_50 (by decide) ?_
    refine lv_isub hx hb dX1_come_51 ?_
    refine W.widen (k := 2) (n := 12) (Nat.le_of_ble_eq_true rfl) (Nat.le_of_ble_eq_true rfl) ?_
    exact fin _ _ _ _ _ rfl (by simp only [k_oN, ho_1, if_pos c_10, Option.none_or, Option.some_or, reduceIte]) (by exact nI_pred N) hP hS dX1_come_52
  · exact thr x_ISE "there are 10 clocks" 30 32 34 _ _ 13 _ _ _ _ cu_th_ISE (hts (.classLink RX1 30 x_ISE) (by decide +kernel)) (hts (.initialized x_ISE) (by decide +kernel)) (by decide +kernel) (by decide +kernel) hS hl.1 dX1_come_13 dX1_come_16 dX1_come_17 dX1_come_19 dX1_come_22 (Nat.le_of_ble_eq_true rfl) (Nat.le_of_ble_eq_true rfl) (Nat.le_of_ble_eq_true rfl) (Nat.le_of_ble_eq_true rfl) (Nat.le_of_ble_eq_true rfl) (Nat.le_of_ble_eq_true rfl) (by simp only [k_oN, ho_1, if_neg c_10, Option.none_or, Option.some_or, reduceIte]) hP

set_option maxHeartbeats 4000000 in
set_option maxRecDepth 100000 in
theorem m_X1_mend (l : Launch) (hlf : l.stackTraces = false) (D : va_G) (C : Nat → ClassId) (a : Nat → Nat) (N : Nat) (hN : N ≤ 10) (mn : Int32) (K P : Nat → Nat → Int32) (v1 : Int32) (v2 : Int32) : cu_XI l D C yX1_mend wsX1_mend { frames := 7, cells := 2, slots := 12, locals := 103 } [.ref (a 0), .int v1, .int v2] (cu_cw C a (nI N) mn K P) (cu_cw C a (nI N) mn (va_up K v1.toNatClampNeg (k_mendK (K v1.toNatClampNeg) v2)) P) ((k_oC N v1).or (k_oE v2)) (k_mendV (K v1.toNatClampNeg) v2) 2 12 := by
  refine cu_openXI (cc := cX1_mend) (maxL := 3) (ty := .int) hlf (by decide) rfl rfl (Nat.le_of_ble_eq_true rfl) ?_
  intro p e s m args below meth c A Z H0 ls e0 hx hb hml hts hown hnm hG hP hD hS hA hl hT fin thr prop
  have hK := hG.1
  have hl : lv_has ls 3 [(0, .ref (a 0)), (1, .int v1), (2, .int v2)] := hl
  have hiX1 : ∀ w ∈ wsX10, w ∈ wsX1_mend := by decide +kernel
  refine lv_aload_n hx hb dX1_mend_0 rfl (lv_at hl 0 rfl) ?_
  refine lv_iload_n hx hb dX1_mend_1 rfl (lv_at hl 1 rfl) ?_
  have sp := cu_sp.all (W0 := (cu_cw C a (nI N) mn K P)) (W1 := (cu_cw C a (nI N) mn K P)) rfl
  refine cu_callXV (vx_runV (As := [.int v1]) (rest := []) ⟨hx, hb, hml, hown, hts⟩ ((m_X1_checkClock l hlf D C a N hN mn K P v1) H0.size) (cwV 1 hts gX1_mend_X1_checkClock rfl rfl rfl (by decide +kernel) ⟨Nat.le_of_ble_eq_true rfl, Nat.le_of_ble_eq_true rfl⟩) (cu_preXV (ci := 1) sp hG hP hD hT hS hA rfl rfl) rfl rfl hl.1 rfl (lv_room (Nat.le_of_ble_eq_true rfl)) dX1_mend_2 ⟨Nat.le_of_ble_eq_true rfl, Nat.le_of_ble_eq_true rfl⟩) sp hP hD hS hA (fun E ce q9 H locs hoE hP hS hce hcv hcl => prop E ce q9 H locs _ _ _ _ _ (by simp only [k_oE, hoE, Option.none_or, Option.some_or, reduceIte]) hP hS hce hcv hcl (Nat.le_of_ble_eq_true rfl) (Nat.le_of_ble_eq_true rfl)) (fun H locs ho_2 hP hD hS => ?_)
  obtain ⟨i, hiN, rfl⟩ := k_oC_in hN ho_2
  have hi : i < 10 := by omega
  have hcl9 : (nI i).toNatClampNeg = i := nI_clamp (by omega)
  have hP : va_P D vwCl (cu_cw C a (nI N) mn K P) H := hP
  have hD : va_D A (cu_cw C a (nI N) mn K P) := hD
  refine lv_iload_n hx hb dX1_mend_5 rfl (lv_at hl 2 rfl) ?_
  by_cases s_0 : v2 = 0
  · subst s_0
    refine lv_tableIn (off := 26) (tgt := 32) hx hb dX1_mend_6 (by decide) (by decide) (by decide) (by decide) ?_
    refine lv_aload_n hx hb dX1_mend_32 rfl (lv_at hl 0 rfl) ?_
    refine va_get (D := D) (ci := 1) (v := .ref (a 1)) (C := RX1) (T := TX1) (N := 4) hx hb hts hiX1 hown hK hP 0 rfl rfl 0 (by decide) (hts (.fieldLink RX1 11 "CuckooShop" "clocks" "[LCuckooShop$Clock;") (by decide +kernel)) (fun _ h9 => h9) rfl dX1_mend_33 ?_
    refine lv_iload_n hx hb dX1_mend_36 rfl (lv_at hl 1 rfl) ?_
    refine cu_aaldK hi hx hb hK hP dX1_mend_37 ?_
    have sp := cu_spK (C := C) (a := a) (n := (nI N)) (m := mn) (K := K) (P := P) hi (upd (K i) 3 100)
    refine cu_callI (va_runVN (As := []) (rest := []) ⟨hx, hb, hml, hown, hts⟩ ((m_X0_fillOil l D C (a (3 + i)) (K i)) H.size) ⟨(va_cnB 0 hts gX1_mend_X0_fillOil_n69 rfl rfl rfl (hG.2.1 (69, yX0_fillOil) (by decide +kernel)) (hts (.initialized RX0) (by decide +kernel)) (by decide +kernel) ⟨Nat.le_of_ble_eq_true rfl, Nat.le_of_ble_eq_true rfl⟩), hts (.instanceMethod yX0_fillOil) (by decide +kernel), hts (.selects RX0 yX0_fillOil yX0_fillOil) (by decide +kernel)⟩ (cu_preV (ci := 0) sp hG hP hD rfl rfl) rfl rfl hl.1 rfl (lv_room (Nat.le_of_ble_eq_true rfl)) dX1_mend_38 ⟨Nat.le_of_ble_eq_true rfl, Nat.le_of_ble_eq_true rfl⟩) sp hP hD hS hA (fun H locs hP hD hS => ?_)
    have hP : va_P D vwCl (cu_cw C a (nI N) mn (va_up K i (upd (K i) 3 100)) P) H := hP
    have hD : va_D A (cu_cw C a (nI N) mn (va_up K i (upd (K i) 3 100)) P) := hD
    refine W.widen (k := 2) (n := 12) (Nat.le_of_ble_eq_true rfl) (Nat.le_of_ble_eq_true rfl) ?_
    exact fin _ _ _ _ _ rfl (by simp only [k_oE, ho_2, Option.none_or, Option.some_or, reduceIte]) (by simp only [k_mendV, k_mendK, hcl9, reduceIte]) (by simpa only [k_mendV, k_mendK, hcl9, reduceIte] using hP) hS dX1_mend_41
  by_cases s_1 : v2 = 1
  · subst s_1
    refine lv_tableIn (off := 36) (tgt := 42) hx hb dX1_mend_6 (by decide) (by decide) (by decide) (by decide) ?_
    refine lv_aload_n hx hb dX1_mend_42 rfl (lv_at hl 0 rfl) ?_
    refine va_get (D := D) (ci := 1) (v := .ref (a 1)) (C := RX1) (T := TX1) (N := 4) hx hb hts hiX1 hown hK hP 0 rfl rfl 0 (by decide) (hts (.fieldLink RX1 11 "CuckooShop" "clocks" "[LCuckooShop$Clock;") (by decide +kernel)) (fun _ h9 => h9) rfl dX1_mend_43 ?_
    refine lv_iload_n hx hb dX1_mend_46 rfl (lv_at hl 1 rfl) ?_
    refine cu_aaldK hi hx hb hK hP dX1_mend_47 ?_
    have sp := cu_spK (C := C) (a := a) (n := (nI N)) (m := mn) (K := K) (P := P) hi (upd (K i) 4 60)
    refine cu_callI (va_runVN (As := []) (rest := []) ⟨hx, hb, hml, hown, hts⟩ ((m_X0_patchBellows l D C (a (3 + i)) (K i)) H.size) ⟨(va_cnB 0 hts gX1_mend_X0_patchBellows_n72 rfl rfl rfl (hG.2.1 (72, yX0_patchBellows) (by decide +kernel)) (hts (.initialized RX0) (by decide +kernel)) (by decide +kernel) ⟨Nat.le_of_ble_eq_true rfl, Nat.le_of_ble_eq_true rfl⟩), hts (.instanceMethod yX0_patchBellows) (by decide +kernel), hts (.selects RX0 yX0_patchBellows yX0_patchBellows) (by decide +kernel)⟩ (cu_preV (ci := 0) sp hG hP hD rfl rfl) rfl rfl hl.1 rfl (lv_room (Nat.le_of_ble_eq_true rfl)) dX1_mend_48 ⟨Nat.le_of_ble_eq_true rfl, Nat.le_of_ble_eq_true rfl⟩) sp hP hD hS hA (fun H locs hP hD hS => ?_)
    have hP : va_P D vwCl (cu_cw C a (nI N) mn (va_up K i (upd (K i) 4 60)) P) H := hP
    have hD : va_D A (cu_cw C a (nI N) mn (va_up K i (upd (K i) 4 60)) P) := hD
    refine W.widen (k := 2) (n := 12) (Nat.le_of_ble_eq_true rfl) (Nat.le_of_ble_eq_true rfl) ?_
    exact fin _ _ _ _ _ rfl (by simp only [k_oE, ho_2, if_neg s_0, Option.none_or, Option.some_or, reduceIte]) (by simp only [k_mendV, k_mendK, hcl9, if_neg s_0, reduceIte]) (by simpa only [k_mendV, k_mendK, hcl9, if_neg s_0, reduceIte] using hP) hS dX1_mend_51
  by_cases s_2 : v2 = 2
  · subst s_2
    refine lv_tableIn (off := 46) (tgt := 52) hx hb dX1_mend_6 (by decide) (by decide) (by decide) (by decide) ?_
    refine lv_aload_n hx hb dX1_mend_52 rfl (lv_at hl 0 rfl) ?_
    refine va_get (D := D) (ci := 1) (v := .ref (a 1)) (C := RX1) (T := TX1) (N := 4) hx hb hts hiX1 hown hK hP 0 rfl rfl 0 (by decide) (hts (.fieldLink RX1 11 "CuckooShop" "clocks" "[LCuckooShop$Clock;") (by decide +kernel)) (fun _ h9 => h9) rfl dX1_mend_53 ?_
    refine lv_iload_n hx hb dX1_mend_56 rfl (lv_at hl 1 rfl) ?_
    refine cu_aaldK hi hx hb hK hP dX1_mend_57 ?_
    have sp := cu_spK (C := C) (a := a) (n := (nI N)) (m := mn) (K := K) (P := P) hi (upd (K i) 5 (k_nudge (K i)))
    refine cu_callI (va_runVN (As := []) (rest := []) ⟨hx, hb, hml, hown, hts⟩ ((m_X0_nudge l D C (a (3 + i)) (K i)) H.size) ⟨(va_cnB 0 hts gX1_mend_X0_nudge_n75 rfl rfl rfl (hG.2.1 (75, yX0_nudge) (by decide +kernel)) (hts (.initialized RX0) (by decide +kernel)) (by decide +kernel) ⟨Nat.le_of_ble_eq_true rfl, Nat.le_of_ble_eq_true rfl⟩), hts (.instanceMethod yX0_nudge) (by decide +kernel), hts (.selects RX0 yX0_nudge yX0_nudge) (by decide +kernel)⟩ (cu_preV (ci := 0) sp hG hP hD rfl rfl) rfl rfl hl.1 rfl (lv_room (Nat.le_of_ble_eq_true rfl)) dX1_mend_58 ⟨Nat.le_of_ble_eq_true rfl, Nat.le_of_ble_eq_true rfl⟩) sp hP hD hS hA (fun H locs hP hD hS => ?_)
    have hP : va_P D vwCl (cu_cw C a (nI N) mn (va_up K i (upd (K i) 5 (k_nudge (K i)))) P) H := hP
    have hD : va_D A (cu_cw C a (nI N) mn (va_up K i (upd (K i) 5 (k_nudge (K i)))) P) := hD
    refine W.widen (k := 2) (n := 12) (Nat.le_of_ble_eq_true rfl) (Nat.le_of_ble_eq_true rfl) ?_
    exact fin _ _ _ _ _ rfl (by simp only [k_oE, ho_2, if_neg s_0, if_neg s_1, Option.none_or, Option.some_or, reduceIte]) (by simp only [k_mendV, k_mendK, hcl9, if_neg s_0, if_neg s_1, reduceIte]) (by simpa only [k_mendV, k_mendK, hcl9, if_neg s_0, if_neg s_1, reduceIte] using hP) hS dX1_mend_61
  refine lv_tableOut (tgt := 62) hx hb dX1_mend_6 (by have q_0 := cu_ne s_0 0 (by decide); have q_1 := cu_ne s_1 1 (by decide); have q_2 := cu_ne s_2 2 (by decide); omega) (by decide) ?_
  exact thr x_IAE "what is mended is 0 to 2" 47 78 51 _ _ 62 _ _ _ _ cu_th_IAE (hts (.classLink RX1 47 x_IAE) (by decide +kernel)) (hts (.initialized x_IAE) (by decide +kernel)) (by decide +kernel) (by decide +kernel) hS hl.1 dX1_mend_62 dX1_mend_65 dX1_mend_66 dX1_mend_68 dX1_mend_71 (Nat.le_of_ble_eq_true rfl) (Nat.le_of_ble_eq_true rfl) (Nat.le_of_ble_eq_true rfl) (Nat.le_of_ble_eq_true rfl) (Nat.le_of_ble_eq_true rfl) (Nat.le_of_ble_eq_true rfl) (by simp only [k_oE, ho_2, if_neg s_0, if_neg s_1, if_neg s_2, Option.none_or, Option.some_or, reduceIte]) hP

set_option maxHeartbeats 4000000 in
set_option maxRecDepth 100000 in
theorem m_X1_pass (l : Launch) (hlf : l.stackTraces = false) (D : va_G) (C : Nat → ClassId) (a : Nat → Nat) (N : Nat) (hN : N ≤ 10) (mn : Int32) (K P : Nat → Nat → Int32) (v1 : Int32) : cu_XI l D C yX1_pass wsX1_pass { frames := 7, cells := 1, slots := 6, locals := 110 } [.ref (a 0), .int v1] (cu_cw C a (nI N) mn K P) (cu_cw C a (nI N) (mn + v1) (k_at N mn K v1.toNatClampNeg) P) (k_oM v1) (k_calls N mn K v1.toNatClampNeg) 1 6 := by
  refine cu_openXI (cc := cX1_pass) (maxL := 4) (ty := .int) hlf (by decide) rfl rfl (Nat.le_of_ble_eq_true rfl) ?_
  intro p e s m args below meth c A Z H0 ls e0 hx hb hml hts hown hnm hG hP hD hS hA hl hT fin thr prop
  have hK := hG.1
  have hl : lv_has ls 4 [(0, .ref (a 0)), (1, .int v1)] := hl
  have hiX1 : ∀ w ∈ wsX10, w ∈ wsX1_pass := by decide +kernel
  refine lv_iload_n hx hb dX1_pass_0 rfl (lv_at hl 1 rfl) ?_
  have sp := cu_sp.nil (W0 := (cu_cw C a (nI N) mn K P))
  refine cu_callXV (vx_runS (As := [.int v1]) (rest := []) ⟨hx, hb, hml, hown, hts⟩ ((m_X1_checkMinutes l hlf D C v1) H0.size) (va_cwS 1 hts gX1_pass_X1_checkMinutes rfl rfl rfl (by decide +kernel) ⟨Nat.le_of_ble_eq_true rfl, Nat.le_of_ble_eq_true rfl⟩) (cu_preXS sp hG hP hD hT hS hA) rfl rfl hl.1 rfl (lv_room (Nat.le_of_ble_eq_true rfl)) dX1_pass_1 ⟨Nat.le_of_ble_eq_true rfl, Nat.le_of_ble_eq_true rfl⟩) sp hP hD hS hA (fun E ce q9 H locs hoE hP hS hce hcv hcl => prop E ce q9 H locs _ _ _ _ _ (by simp only [hoE, Option.none_or, Option.some_or, reduceIte]) hP hS hce hcv hcl (Nat.le_of_ble_eq_true rfl) (Nat.le_of_ble_eq_true rfl)) (fun H locs ho_1 hP hD hS => ?_)
  obtain ⟨t, ht1, ht2, rfl⟩ := k_oM_in ho_1
  have hcl9 : (nI t).toNatClampNeg = t := nI_clamp (by omega)
  refine lv_iconst (v := 0) hx hb dX1_pass_4 (by decide) ?_
  refine lv_istore_n (lv' := [(2, .int 0), (0, .ref (a 0)), (1, .int (nI t))]) hx hb dX1_pass_5 rfl hl (by decide) rfl (fun ls hl => ?_)
  refine lv_iconst (v := 0) hx hb dX1_pass_6 (by decide) ?_
  refine lv_istore_n (lv' := [(3, .int 0), (2, .int 0), (0, .ref (a 0)), (1, .int (nI t))]) hx hb dX1_pass_7 rfl hl (by decide) rfl (fun ls hl => ?_)
  rw [← k_m0 mn] at hP hD
  have loop : ∀ (j : Nat), ∀ (i : Nat), i + j = t → ∀ (H : Heap) (locs : List Loc) (ls : Array Slot), va_P D vwCl (cu_cw C a (nI N) (mn + nI i) (k_at N mn K i) P) H → va_D A (cu_cw C a (nI N) (mn + nI i) (k_at N mn K i) P) → va_S A H0 H locs → lv_has ls 4 [(0, .ref (a 0)), (1, .int (nI t)), (2, .int (k_calls N mn K i)), (3, .int (nI i))] → W p l e { frames := 7, cells := 1, slots := 6, locals := 110 } s m args below meth c H locs 1 6 Z (F0 m 8 ls []) := by
    intro j
    induction j with
    | zero =>
      intro i hj H locs ls hP hD hS hl
      have eN : i = t := by omega
      refine lv_iload_n hx hb dX1_pass_8 rfl (lv_at hl 3 rfl) ?_
      refine lv_iload_n hx hb dX1_pass_9 rfl (lv_at hl 1 rfl) ?_
      refine lv_icmp_ge (tgt := 44) hx hb dX1_pass_10 (by decide) (fun c_10 => ?_) (fun c_10 => absurd (nI_le (a := t) (by omega) (by omega)) c_10)
      refine lv_iload_n hx hb dX1_pass_44 rfl (lv_at hl 2 rfl) ?_
      refine W.widen (k := 1) (n := 6) (Nat.le_of_ble_eq_true rfl) (Nat.le_of_ble_eq_true rfl) ?_
      exact fin _ _ _ _ _ rfl (by simp only [ho_1, if_pos c_10, Option.none_or, Option.some_or, reduceIte]) (by rw [hcl9, ← eN]) (by rw [hcl9, ← eN]; exact hP) hS dX1_pass_45
    | succ j ih =>
      intro i hj H locs ls hP hD hS hl
      refine lv_iload_n hx hb dX1_pass_8 rfl (lv_at hl 3 rfl) ?_
      refine lv_iload_n hx hb dX1_pass_9 rfl (lv_at hl 1 rfl) ?_
      refine lv_icmp_ge (tgt := 44) hx hb dX1_pass_10 (by decide) (fun c_10 => absurd c_10 (nI_ge (b := t) (by omega) (by omega))) (fun c_10 => ?_)
      refine lv_iload_n hx hb dX1_pass_13 rfl (lv_at hl 2 rfl) ?_
      refine lv_aload_n hx hb dX1_pass_14 rfl (lv_at hl 0 rfl) ?_
      refine lv_aload_n hx hb dX1_pass_15 rfl (lv_at hl 0 rfl) ?_
      refine va_get (D := D) (ci := 1) (v := .ref (a 1)) (C := RX1) (T := TX1) (N := 4) hx hb hts hiX1 hown hK hP 0 rfl rfl 0 (by decide) (hts (.fieldLink RX1 11 "CuckooShop" "clocks" "[LCuckooShop$Clock;") (by decide +kernel)) (fun _ h9 => h9) rfl dX1_pass_16 ?_
      refine lv_aload_n hx hb dX1_pass_19 rfl (lv_at hl 0 rfl) ?_
      refine va_get (D := D) (ci := 1) (v := .int (mn + nI i)) (C := RX1) (T := TX1) (N := 4) hx hb hts hiX1 hown hK hP 0 rfl rfl 3 (by decide) (hts (.fieldLink RX1 23 "CuckooShop" "minute" "I") (by decide +kernel)) (fun _ h9 => h9) rfl dX1_pass_20 ?_
      have sp := cu_sp.all (W0 := (cu_cw C a (nI N) (mn + nI i) (k_at N mn K i) P)) (W1 := (cu_cw C a (nI N) (mn + nI i) (k_upto (k_min (mn + nI i)) (k_at N mn K i) N) P)) cu_cw_fst
      refine cu_callI (va_runV (As := [.ref (a 1), .int (mn + nI i)]) (rest := [.int (k_calls N mn K i)]) ⟨hx, hb, hml, hown, hts⟩ ((m_X1_runRow l D C a N hN (mn + nI i) (k_at N mn K i) P (mn + nI i)) H.size) (cwV 2 hts gX1_pass_X1_runRow rfl rfl rfl (by decide +kernel) ⟨Nat.le_of_ble_eq_true rfl, Nat.le_of_ble_eq_true rfl⟩) (cu_preV (ci := 1) sp hG hP hD rfl rfl) rfl rfl hl.1 rfl (lv_room (Nat.le_of_ble_eq_true rfl)) dX1_pass_23 ⟨Nat.le_of_ble_eq_true rfl, Nat.le_of_ble_eq_true rfl⟩) sp hP hD hS hA (fun H locs hP hD hS => ?_)
      have hP : va_P D vwCl (cu_cw C a (nI N) (mn + nI i) (k_upto (k_min (mn + nI i)) (k_at N mn K i) N) P) H := hP
      have hD : va_D A (cu_cw C a (nI N) (mn + nI i) (k_upto (k_min (mn + nI i)) (k_at N mn K i) N) P) := hD
      have hP : va_P D vwCl (cu_cw C a (nI N) (mn + nI i) (k_at N mn K (i + 1)) P) H := hP
      have hD : va_D A (cu_cw C a (nI N) (mn + nI i) (k_at N mn K (i + 1)) P) := hD
      refine lv_iadd hx hb dX1_pass_26 ?_
      refine lv_istore_n (lv' := [(2, .int ((k_calls N mn K i) + (k_lat N (mn + nI i) (k_at N mn K i)))), (0, .ref (a 0)), (1, .int (nI t)), (3, .int (nI i))]) hx hb dX1_pass_27 rfl hl (by decide) rfl (fun ls hl => ?_)
      refine lv_aload_n hx hb dX1_pass_28 rfl (lv_at hl 1 rfl) ?_
      refine lv_dup hx hb dX1_pass_29 rfl ?_
      refine va_get (D := D) (ci := 1) (v := .int (mn + nI i)) (C := RX1) (T := TX1) (N := 4) hx hb hts hiX1 hown hK hP 0 rfl rfl 3 (by decide) (hts (.fieldLink RX1 23 "CuckooShop" "minute" "I") (by decide +kernel)) (fun _ h9 => h9) rfl dX1_pass_30 ?_
      refine lv_iconst (v := 1) hx hb dX1_pass_33 (by decide) ?_
      refine lv_iadd hx hb dX1_pass_34 ?_
      refine cu_top (x' := mn + nI (i + 1)) (by rw [Int32.add_assoc, nI_1]) ?_
      refine va_put (D := D) (ci := 1) (v := .int (mn + nI (i + 1))) (ty := .int) (C := RX1) (T := TX1) (N := 4) hx hb hts hiX1 tyX1 tyX1_ok nmX1 hown hK hP hD hS 0 rfl rfl 3 (by decide) (hts (.fieldLink RX1 23 "CuckooShop" "minute" "I") (by decide +kernel)) (fun _ h9 => h9) rfl (by decide +kernel) rfl rfl (Nat.le_of_ble_eq_true rfl) dX1_pass_35 (fun H locs hP hD hS => ?_)
      have hP : va_P D vwCl (cu_cw C a (nI N) (mn + nI (i + 1)) (k_at N mn K (i + 1)) P) H := hP
      have hD : va_D A (cu_cw C a (nI N) (mn + nI (i + 1)) (k_at N mn K (i + 1)) P) := hD
      refine lv_iinc (v := (nI (i + 1))) (lv' := [(3, .int (nI (i + 1))), (2, .int ((k_calls N mn K i) + (k_lat N (mn + nI i) (k_at N mn K i)))), (0, .ref (a 0)), (1, .int (nI t))]) hx hb dX1_pass_38 hl (k := 3) rfl (nI_1 i) (by decide) rfl (fun ls hl => ?_)
      refine lv_goto (tgt := 8) hx hb dX1_pass_41 (by decide) ?_
      exact ih (i + 1) (by omega) _ _ _ hP hD hS (lv_sub hl [2, 3, 1, 0] rfl)
  exact loop t 0 (by omega) _ _ _ hP hD hS (lv_sub hl [2, 3, 1, 0] rfl)

set_option maxHeartbeats 4000000 in
set_option maxRecDepth 100000 in
theorem m_X1_next (l : Launch) (hlf : l.stackTraces = false) (D : va_G) (C : Nat → ClassId) (a : Nat → Nat) (N : Nat) (hN : N ≤ 10) (mn : Int32) (K P : Nat → Nat → Int32) (v1 : Int32) (h5 : ∀ c, c < N → K c 5 = 0 ∨ K c 5 = 1) : cu_XI l D C yX1_next wsX1_next { frames := 7, cells := 1, slots := 6, locals := 103 } [.ref (a 0), .int v1] (cu_cw C a (nI N) mn K P) (cu_cw C a (nI N) mn K (va_up P v1.toNatClampNeg (k_nextS mn (K v1.toNatClampNeg) 720 0))) (k_oC N v1) (k_next mn (K v1.toNatClampNeg)) 1 6 := by
  refine cu_openXI (cc := cX1_next) (maxL := 4) (ty := .int) hlf (by decide) rfl rfl (Nat.le_of_ble_eq_true rfl) ?_
  intro p e s m args below meth c A Z H0 ls e0 hx hb hml hts hown hnm hG hP hD hS hA hl hT fin thr prop
  have hK := hG.1
  have hl : lv_has ls 4 [(0, .ref (a 0)), (1, .int v1)] := hl
  have hiX0 : ∀ w ∈ wsX00, w ∈ wsX1_next := by decide +kernel
  have hiX1 : ∀ w ∈ wsX10, w ∈ wsX1_next := by decide +kernel
  refine lv_aload_n hx hb dX1_next_0 rfl (lv_at hl 0 rfl) ?_
  refine lv_iload_n hx hb dX1_next_1 rfl (lv_at hl 1 rfl) ?_
  have sp := cu_sp.all (W0 := (cu_cw C a (nI N) mn K P)) (W1 := (cu_cw C a (nI N) mn K P)) rfl
  refine cu_callXV (vx_runV (As := [.int v1]) (rest := []) ⟨hx, hb, hml, hown, hts⟩ ((m_X1_checkClock l hlf D C a N hN mn K P v1) H0.size) (cwV 1 hts gX1_next_X1_checkClock rfl rfl rfl (by decide +kernel) ⟨Nat.le_of_ble_eq_true rfl, Nat.le_of_ble_eq_true rfl⟩) (cu_preXV (ci := 1) sp hG hP hD hT hS hA rfl rfl) rfl rfl hl.1 rfl (lv_room (Nat.le_of_ble_eq_true rfl)) dX1_next_2 ⟨Nat.le_of_ble_eq_true rfl, Nat.le_of_ble_eq_true rfl⟩) sp hP hD hS hA (fun E ce q9 H locs hoE hP hS hce hcv hcl => prop E ce q9 H locs _ _ _ _ _ (by simp only [hoE, Option.none_or, Option.some_or, reduceIte]) hP hS hce hcv hcl (Nat.le_of_ble_eq_true rfl) (Nat.le_of_ble_eq_true rfl)) (fun H locs ho_2 hP hD hS => ?_)
  obtain ⟨i, hiN, rfl⟩ := k_oC_in hN ho_2
  have hi : i < 10 := by omega
  have hcl9 : (nI i).toNatClampNeg = i := nI_clamp (by omega)
  have hP : va_P D vwCl (cu_cw C a (nI N) mn K P) H := hP
  have hD : va_D A (cu_cw C a (nI N) mn K P) := hD
  refine lv_aload_n hx hb dX1_next_5 rfl (lv_at hl 0 rfl) ?_
  refine va_get (D := D) (ci := 1) (v := .ref (a 2)) (C := RX1) (T := TX1) (N := 4) hx hb hts hiX1 hown hK hP 0 rfl rfl 1 (by decide) (hts (.fieldLink RX1 15 "CuckooShop" "copies" "[LCuckooShop$Clock;") (by decide +kernel)) (fun _ h9 => h9) rfl dX1_next_6 ?_
  refine lv_iload_n hx hb dX1_next_9 rfl (lv_at hl 1 rfl) ?_
  refine cu_aaldP hi hx hb hK hP dX1_next_10 ?_
  refine lv_astore_n (lv' := [(2, .ref (a (13 + i))), (0, .ref (a 0)), (1, .int (nI i))]) hx hb dX1_next_11 rfl hl (by decide) rfl (fun ls hl => ?_)
  refine lv_aload_n hx hb dX1_next_12 rfl (lv_at hl 0 rfl) ?_
  refine lv_aload_n hx hb dX1_next_13 rfl (lv_at hl 1 rfl) ?_
  refine va_get (D := D) (ci := 1) (v := .ref (a 1)) (C := RX1) (T := TX1) (N := 4) hx hb hts hiX1 hown hK hP 0 rfl rfl 0 (by decide) (hts (.fieldLink RX1 11 "CuckooShop" "clocks" "[LCuckooShop$Clock;") (by decide +kernel)) (fun _ h9 => h9) rfl dX1_next_14 ?_
  refine lv_iload_n hx hb dX1_next_17 rfl (lv_at hl 2 rfl) ?_
  refine cu_aaldK hi hx hb hK hP dX1_next_18 ?_
  have sp := cu_spC (C := C) (a := a) (n := (nI N)) (m := mn) (K := K) (P := P) hi
  refine cu_callV (va_runVN (As := [.ref (a (3 + i))]) (rest := []) ⟨hx, hb, hml, hown, hts⟩ ((m_X0_copyFrom l D C (a (13 + i)) (P i) (a (3 + i)) (K i) (h5 i (by omega))) H.size) ⟨(va_cnB 1 hts gX1_next_X0_copyFrom_n107 rfl rfl rfl (hG.2.1 (107, yX0_copyFrom) (by decide +kernel)) (hts (.initialized RX0) (by decide +kernel)) (by decide +kernel) ⟨Nat.le_of_ble_eq_true rfl, Nat.le_of_ble_eq_true rfl⟩), hts (.instanceMethod yX0_copyFrom) (by decide +kernel), hts (.selects RX0 yX0_copyFrom yX0_copyFrom) (by decide +kernel)⟩ (cu_preV (ci := 0) sp hG hP hD rfl rfl) rfl rfl hl.1 rfl (lv_room (Nat.le_of_ble_eq_true rfl)) dX1_next_19 ⟨Nat.le_of_ble_eq_true rfl, Nat.le_of_ble_eq_true rfl⟩) sp hP hD hS hA (fun H locs hP hD hS => ?_)
  have hP : va_P D vwCl (cu_cw C a (nI N) mn K (va_up P i (K i))) H := hP
  have hD : va_D A (cu_cw C a (nI N) mn K (va_up P i (K i))) := hD
  refine lv_iconst (v := 0) hx hb dX1_next_22 (by decide) ?_
  refine lv_istore_n (lv' := [(3, .int 0), (2, .ref (a (13 + i))), (0, .ref (a 0)), (1, .int (nI i))]) hx hb dX1_next_23 rfl hl (by decide) rfl (fun ls hl => ?_)
  have loop : ∀ (j : Nat), ∀ (b : Nat), b + j = 720 → k_nextR mn (K i) j b = k_next mn (K i) → k_nextS mn (K i) j b = k_nextS mn (K i) 720 0 → ∀ (H : Heap) (locs : List Loc) (ls : Array Slot), va_P D vwCl (cu_cw C a (nI N) mn K (va_up P i (k_at1 mn (K i) b))) H → va_D A (cu_cw C a (nI N) mn K (va_up P i (k_at1 mn (K i) b))) → va_S A H0 H locs → lv_has ls 4 [(0, .ref (a 0)), (1, .int (nI i)), (2, .ref (a (13 + i))), (3, .int (nI b))] → W p l e { frames := 7, cells := 1, slots := 6, locals := 103 } s m args below meth c H locs 1 6 Z (F0 m 24 ls []) := by
    intro j
    induction j with
    | zero =>
      intro b hj hf hg H locs ls hP hD hS hl
      refine lv_iload_n hx hb dX1_next_24 rfl (lv_at hl 3 rfl) ?_
      refine lv_sipush (v := 720) hx hb dX1_next_25 (by decide) ?_
      refine lv_icmp_ge (tgt := 58) hx hb dX1_next_28 (by decide) (fun c_28 => ?_) (fun c_28 => absurd (nI_le (a := 720) (by omega) (by omega)) c_28)
      refine lv_iconst (v := -1) hx hb dX1_next_58 (by decide) ?_
      refine W.widen (k := 1) (n := 6) (Nat.le_of_ble_eq_true rfl) (Nat.le_of_ble_eq_true rfl) ?_
      exact fin _ _ _ _ _ rfl (by simp only [ho_2, if_pos c_28, Option.none_or, Option.some_or, reduceIte]) (by rw [hcl9]; exact hf) (by rw [hcl9, ← hg]; exact hP) hS dX1_next_59
    | succ j ih =>
      intro b hj hf hg H locs ls hP hD hS hl
      refine lv_iload_n hx hb dX1_next_24 rfl (lv_at hl 3 rfl) ?_
      refine lv_sipush (v := 720) hx hb dX1_next_25 (by decide) ?_
      refine lv_icmp_ge (tgt := 58) hx hb dX1_next_28 (by decide) (fun c_28 => absurd c_28 (nI_ge (b := 720) (by omega) (by decide))) (fun c_28 => ?_)
      refine lv_aload_n hx hb dX1_next_31 rfl (lv_at hl 2 rfl) ?_
      refine lv_aload_n hx hb dX1_next_32 rfl (lv_at hl 0 rfl) ?_
      refine va_get (D := D) (ci := 1) (v := .int mn) (C := RX1) (T := TX1) (N := 4) hx hb hts hiX1 hown hK hP 0 rfl rfl 3 (by decide) (hts (.fieldLink RX1 23 "CuckooShop" "minute" "I") (by decide +kernel)) (fun _ h9 => h9) rfl dX1_next_33 ?_
      refine lv_iload_n hx hb dX1_next_36 rfl (lv_at hl 3 rfl) ?_
      refine lv_iadd hx hb dX1_next_37 ?_
      have sp := cu_spP (C := C) (a := a) (n := (nI N)) (m := mn) (K := K) (P := (va_up P i (k_at1 mn (K i) b))) hi (k_min (mn + nI b) ((va_up P i (k_at1 mn (K i) b)) i))
      refine cu_callV (va_runVN (As := [.int (mn + nI b)]) (rest := []) ⟨hx, hb, hml, hown, hts⟩ ((m_X0_runMinute l D C (a (13 + i)) ((va_up P i (k_at1 mn (K i) b)) i) (mn + nI b)) H.size) ⟨(va_cnB 1 hts gX1_next_X0_runMinute_n111 rfl rfl rfl (hG.2.1 (111, yX0_runMinute) (by decide +kernel)) (hts (.initialized RX0) (by decide +kernel)) (by decide +kernel) ⟨Nat.le_of_ble_eq_true rfl, Nat.le_of_ble_eq_true rfl⟩), hts (.instanceMethod yX0_runMinute) (by decide +kernel), hts (.selects RX0 yX0_runMinute yX0_runMinute) (by decide +kernel)⟩ (cu_preV (ci := 0) sp hG hP hD rfl rfl) rfl rfl hl.1 rfl (lv_room (Nat.le_of_ble_eq_true rfl)) dX1_next_38 ⟨Nat.le_of_ble_eq_true rfl, Nat.le_of_ble_eq_true rfl⟩) sp hP hD hS hA (fun H locs hP hD hS => ?_)
      have hP : va_P D vwCl (cu_cw C a (nI N) mn K (va_up (va_up P i (k_at1 mn (K i) b)) i (k_min (mn + nI b) ((va_up P i (k_at1 mn (K i) b)) i)))) H := hP
      have hD : va_D A (cu_cw C a (nI N) mn K (va_up (va_up P i (k_at1 mn (K i) b)) i (k_min (mn + nI b) ((va_up P i (k_at1 mn (K i) b)) i)))) := hD
      rw [va_up_self, bx_uu] at hP hD
      have hP : va_P D vwCl (cu_cw C a (nI N) mn K (va_up P i (k_at1 mn (K i) (b + 1)))) H := hP
      have hD : va_D A (cu_cw C a (nI N) mn K (va_up P i (k_at1 mn (K i) (b + 1)))) := hD
      refine lv_aload_n hx hb dX1_next_41 rfl (lv_at hl 2 rfl) ?_
      refine va_getN (host := RX1) (D := D) (ci := 0) (v := .int (((va_up P i (k_at1 mn (K i) (b + 1))) i) 8)) (C := RX0) (T := TX0) (N := 14) hx hb hts hiX0 hown hK hP (13 + i) (cu_cw_P hi) rfl 13 (by decide) (va_Nw.use rfl (hG.2.2.1 (114, "latestCalls", "I") (by decide +kernel))) (fun _ h9 => h9) rfl dX1_next_42 ?_
      refine cu_top (x' := k_at1 mn (K i) (b + 1) 8) (by rw [va_up_self]) ?_
      refine lv_if_le (tgt := 52) hx hb dX1_next_45 (by decide) (fun c_45 => ?_) (fun c_45 => ?_)
      · refine lv_iinc (v := (nI (b + 1))) (lv' := [(3, .int (nI (b + 1))), (0, .ref (a 0)), (1, .int (nI i)), (2, .ref (a (13 + i)))]) hx hb dX1_next_52 hl (k := 3) rfl (nI_1 b) (by decide) rfl (fun ls hl => ?_)
        refine lv_goto (tgt := 24) hx hb dX1_next_55 (by decide) ?_
        exact ih (b + 1) (by omega) (by rw [← hf]; exact (if_pos c_45).symm) (by rw [← hg]; exact (if_pos c_45).symm) _ _ _ hP hD hS (lv_sub hl [1, 2, 3, 0] rfl)
      · refine lv_iload_n hx hb dX1_next_48 rfl (lv_at hl 3 rfl) ?_
        refine lv_iconst (v := 1) hx hb dX1_next_49 (by decide) ?_
        refine lv_iadd hx hb dX1_next_50 ?_
        refine W.widen (k := 1) (n := 6) (Nat.le_of_ble_eq_true rfl) (Nat.le_of_ble_eq_true rfl) ?_
        exact fin _ _ _ _ _ rfl (by simp only [ho_2, if_neg c_28, if_neg c_45, Option.none_or, Option.some_or, reduceIte]) (by rw [hcl9, ← hf]; exact (if_neg c_45).symm) (by rw [hcl9, ← hg, show k_nextS mn (K i) (j + 1) b = k_at1 mn (K i) (b + 1) from if_neg c_45]; exact hP) hS dX1_next_51
  exact loop 720 0 (by omega) rfl rfl _ _ _ hP hD hS (lv_sub hl [2, 3, 1, 0] rfl)

set_option maxHeartbeats 4000000 in
set_option maxRecDepth 100000 in
theorem m_X1_foresee (l : Launch) (hlf : l.stackTraces = false) (D : va_G) (C : Nat → ClassId) (a : Nat → Nat) (N : Nat) (hN : N ≤ 10) (mn : Int32) (K P : Nat → Nat → Int32) (v1 : Int32) (v2 : Int32) (h5 : ∀ c, c < N → K c 5 = 0 ∨ K c 5 = 1) : cu_XI l D C yX1_foresee wsX1_foresee { frames := 7, cells := 2, slots := 12, locals := 110 } [.ref (a 0), .int v1, .int v2] (cu_cw C a (nI N) mn K P) (cu_cw C a (nI N) mn K (k_at N mn (k_cpy K P N) v1.toNatClampNeg)) ((k_oM v1).or (k_oF v2)) (k_fore N mn K (k_cpy K P N) v1.toNatClampNeg v2) 2 12 := by
  refine cu_openXI (cc := cX1_foresee) (maxL := 5) (ty := .int) hlf (by decide) rfl rfl (Nat.le_of_ble_eq_true rfl) ?_
  intro p e s m args below meth c A Z H0 ls e0 hx hb hml hts hown hnm hG hP hD hS hA hl hT fin thr prop
  have hK := hG.1
  have hl : lv_has ls 5 [(0, .ref (a 0)), (1, .int v1), (2, .int v2)] := hl
  have hiX1 : ∀ w ∈ wsX10, w ∈ wsX1_foresee := by decide +kernel
  refine lv_iload_n hx hb dX1_foresee_0 rfl (lv_at hl 1 rfl) ?_
  have sp := cu_sp.nil (W0 := (cu_cw C a (nI N) mn K P))
  refine cu_callXV (vx_runS (As := [.int v1]) (rest := []) ⟨hx, hb, hml, hown, hts⟩ ((m_X1_checkMinutes l hlf D C v1) H0.size) (va_cwS 1 hts gX1_foresee_X1_checkMinutes rfl rfl rfl (by decide +kernel) ⟨Nat.le_of_ble_eq_true rfl, Nat.le_of_ble_eq_true rfl⟩) (cu_preXS sp hG hP hD hT hS hA) rfl rfl hl.1 rfl (lv_room (Nat.le_of_ble_eq_true rfl)) dX1_foresee_1 ⟨Nat.le_of_ble_eq_true rfl, Nat.le_of_ble_eq_true rfl⟩) sp hP hD hS hA (fun E ce q9 H locs hoE hP hS hce hcv hcl => prop E ce q9 H locs _ _ _ _ _ (by simp only [k_oF, hoE, Option.none_or, Option.some_or, reduceIte]) hP hS hce hcv hcl (Nat.le_of_ble_eq_true rfl) (Nat.le_of_ble_eq_true rfl)) (fun H locs ho_1 hP hD hS => ?_)
  obtain ⟨t, ht1, ht2, rfl⟩ := k_oM_in ho_1
  have hcl9 : (nI t).toNatClampNeg = t := nI_clamp (by omega)
  refine lv_iload_n hx hb dX1_foresee_4 rfl (lv_at hl 2 rfl) ?_
  refine lv_iconst (v := 0) hx hb dX1_foresee_5 (by decide) ?_
  refine lv_iconst (v := 3) hx hb dX1_foresee_6 (by decide) ?_
  have sp := cu_sp.nil (W0 := (cu_cw C a (nI N) mn K P))
  refine cu_callI (va_runS (As := [.int v2, .int 0, .int 3]) (rest := []) ⟨hx, hb, hml, hown, hts⟩ ((m_X1_isWithin l D C v2 0 3) H.size) (va_cwS 3 hts gX1_foresee_X1_isWithin rfl rfl rfl (by decide +kernel) ⟨Nat.le_of_ble_eq_true rfl, Nat.le_of_ble_eq_true rfl⟩) (cu_preS sp hG hP hD) rfl rfl hl.1 rfl (lv_room (Nat.le_of_ble_eq_true rfl)) dX1_foresee_7 ⟨Nat.le_of_ble_eq_true rfl, Nat.le_of_ble_eq_true rfl⟩) sp hP hD hS hA (fun H locs hP hD hS => ?_)
  refine lv_if_ne (tgt := 23) hx hb dX1_foresee_10 (by decide) (fun c_10 => ?_) (fun c_10 => ?_)
  · refine lv_aload_n hx hb dX1_foresee_23 rfl (lv_at hl 0 rfl) ?_
    have sp := cu_sp.all (W0 := (cu_cw C a (nI N) mn K P)) (W1 := (cu_cw C a (nI N) mn K (k_cpy K P N))) cu_cw_fst
    refine cu_callV (va_runV (As := []) (rest := []) ⟨hx, hb, hml, hown, hts⟩ ((m_X1_copyClocks l D C a N hN mn K P  h5) H.size) (cwV 0 hts gX1_foresee_X1_copyClocks rfl rfl rfl (by decide +kernel) ⟨Nat.le_of_ble_eq_true rfl, Nat.le_of_ble_eq_true rfl⟩) (cu_preV (ci := 1) sp hG hP hD rfl rfl) rfl rfl hl.1 rfl (lv_room (Nat.le_of_ble_eq_true rfl)) dX1_foresee_24 ⟨Nat.le_of_ble_eq_true rfl, Nat.le_of_ble_eq_true rfl⟩) sp hP hD hS hA (fun H locs hP hD hS => ?_)
    have hP : va_P D vwCl (cu_cw C a (nI N) mn K (k_cpy K P N)) H := hP
    have hD : va_D A (cu_cw C a (nI N) mn K (k_cpy K P N)) := hD
    refine lv_iconst (v := 0) hx hb dX1_foresee_27 (by decide) ?_
    refine lv_istore_n (lv' := [(3, .int 0), (0, .ref (a 0)), (1, .int (nI t)), (2, .int v2)]) hx hb dX1_foresee_28 rfl hl (by decide) rfl (fun ls hl => ?_)
    refine lv_iconst (v := 0) hx hb dX1_foresee_29 (by decide) ?_
    refine lv_istore (lv' := [(4, .int 0), (3, .int 0), (0, .ref (a 0)), (1, .int (nI t)), (2, .int v2)]) hx hb dX1_foresee_30 hl (by decide) rfl (fun ls hl => ?_)
    have loop : ∀ (j : Nat), ∀ (b : Nat), b + j = t → ∀ (H : Heap) (locs : List Loc) (ls : Array Slot), va_P D vwCl (cu_cw C a (nI N) mn K (k_at N mn (k_cpy K P N) b)) H → va_D A (cu_cw C a (nI N) mn K (k_at N mn (k_cpy K P N) b)) → va_S A H0 H locs → lv_has ls 5 [(0, .ref (a 0)), (1, .int (nI t)), (2, .int v2), (3, .int (k_calls N mn (k_cpy K P N) b)), (4, .int (nI b))] → W p l e { frames := 7, cells := 2, slots := 12, locals := 110 } s m args below meth c H locs 1 6 Z (F0 m 32 ls []) := by
      intro j
      induction j with
      | zero =>
        intro b hj H locs ls hP hD hS hl
        have eN : b = t := by omega
        refine lv_iload hx hb dX1_foresee_32 (lv_at hl 4 rfl) ?_
        refine lv_iload_n hx hb dX1_foresee_34 rfl (lv_at hl 1 rfl) ?_
        refine lv_icmp_ge (tgt := 62) hx hb dX1_foresee_35 (by decide) (fun c_35 => ?_) (fun c_35 => absurd (nI_le (a := t) (by omega) (by omega)) c_35)
        refine lv_iload_n hx hb dX1_foresee_62 rfl (lv_at hl 2 rfl) ?_
        by_cases s_0 : v2 = 0
        · subst s_0
          refine lv_tableIn (off := 25) (tgt := 88) hx hb dX1_foresee_63 (by decide) (by decide) (by decide) (by decide) ?_
          refine lv_iload_n hx hb dX1_foresee_88 rfl (lv_at hl 3 rfl) ?_
          refine W.widen (k := 2) (n := 12) (Nat.le_of_ble_eq_true rfl) (Nat.le_of_ble_eq_true rfl) ?_
          exact fin _ _ _ _ _ rfl (by simp only [k_oF, ho_1, if_neg c_10, if_pos c_35, Option.none_or, Option.some_or, reduceIte]) (by rw [hcl9, ← eN]; simp only [k_fore, if_neg c_10, if_pos c_35, reduceIte]) (by rw [hcl9, ← eN]; exact hP) hS dX1_foresee_89
        by_cases s_1 : v2 = 1
        · subst s_1
          refine lv_tableIn (off := 27) (tgt := 90) hx hb dX1_foresee_63 (by decide) (by decide) (by decide) (by decide) ?_
          refine lv_aload_n hx hb dX1_foresee_90 rfl (lv_at hl 0 rfl) ?_
          refine lv_aload_n hx hb dX1_foresee_91 rfl (lv_at hl 0 rfl) ?_
          refine va_get (D := D) (ci := 1) (v := .ref (a 2)) (C := RX1) (T := TX1) (N := 4) hx hb hts hiX1 hown hK hP 0 rfl rfl 1 (by decide) (hts (.fieldLink RX1 15 "CuckooShop" "copies" "[LCuckooShop$Clock;") (by decide +kernel)) (fun _ h9 => h9) rfl dX1_foresee_92 ?_
          refine lv_bipush (v := 8) hx hb dX1_foresee_95 (by decide) ?_
          have sp := cu_sp.all (W0 := (cu_cw C a (nI N) mn K (k_at N mn (k_cpy K P N) b))) (W1 := (cu_cw C a (nI N) mn K (k_at N mn (k_cpy K P N) b))) rfl
          refine cu_callI (va_runV (As := [.ref (a 2), .int 8]) (rest := []) ⟨hx, hb, hml, hown, hts⟩ ((m_X1_sumOfP l D C a N hN mn K (k_at N mn (k_cpy K P N) b) 8) H.size) (cwV 2 hts gX1_foresee_X1_sumOf rfl rfl rfl (by decide +kernel) ⟨Nat.le_of_ble_eq_true rfl, Nat.le_of_ble_eq_true rfl⟩) (cu_preV (ci := 1) sp hG hP hD rfl rfl) rfl rfl hl.1 rfl (lv_room (Nat.le_of_ble_eq_true rfl)) dX1_foresee_97 ⟨Nat.le_of_ble_eq_true rfl, Nat.le_of_ble_eq_true rfl⟩) sp hP hD hS hA (fun H locs hP hD hS => ?_)
          have hP : va_P D vwCl (cu_cw C a (nI N) mn K (k_at N mn (k_cpy K P N) b)) H := hP
          have hD : va_D A (cu_cw C a (nI N) mn K (k_at N mn (k_cpy K P N) b)) := hD
          refine lv_aload_n hx hb dX1_foresee_100 rfl (lv_at hl 0 rfl) ?_
          refine lv_aload_n hx hb dX1_foresee_101 rfl (lv_at hl 0 rfl) ?_
          refine va_get (D := D) (ci := 1) (v := .ref (a 1)) (C := RX1) (T := TX1) (N := 4) hx hb hts hiX1 hown hK hP 0 rfl rfl 0 (by decide) (hts (.fieldLink RX1 11 "CuckooShop" "clocks" "[LCuckooShop$Clock;") (by decide +kernel)) (fun _ h9 => h9) rfl dX1_foresee_102 ?_
          refine lv_bipush (v := 8) hx hb dX1_foresee_105 (by decide) ?_
          have sp := cu_sp.all (W0 := (cu_cw C a (nI N) mn K (k_at N mn (k_cpy K P N) b))) (W1 := (cu_cw C a (nI N) mn K (k_at N mn (k_cpy K P N) b))) rfl
          refine cu_callI (va_runV (As := [.ref (a 1), .int 8]) (rest := [.int (k_all N (k_at N mn (k_cpy K P N) b) 8)]) ⟨hx, hb, hml, hown, hts⟩ ((m_X1_sumOf l D C a N hN mn K (k_at N mn (k_cpy K P N) b) 8) H.size) (cwV 2 hts gX1_foresee_X1_sumOf rfl rfl rfl (by decide +kernel) ⟨Nat.le_of_ble_eq_true rfl, Nat.le_of_ble_eq_true rfl⟩) (cu_preV (ci := 1) sp hG hP hD rfl rfl) rfl rfl hl.1 rfl (lv_room (Nat.le_of_ble_eq_true rfl)) dX1_foresee_107 ⟨Nat.le_of_ble_eq_true rfl, Nat.le_of_ble_eq_true rfl⟩) sp hP hD hS hA (fun H locs hP hD hS => ?_)
          have hP : va_P D vwCl (cu_cw C a (nI N) mn K (k_at N mn (k_cpy K P N) b)) H := hP
          have hD : va_D A (cu_cw C a (nI N) mn K (k_at N mn (k_cpy K P N) b)) := hD
          refine lv_isub hx hb dX1_foresee_110 ?_
          refine W.widen (k := 2) (n := 12) (Nat.le_of_ble_eq_true rfl) (Nat.le_of_ble_eq_true rfl) ?_
          exact fin _ _ _ _ _ rfl (by simp only [k_oF, ho_1, if_neg c_10, if_pos c_35, if_neg s_0, Option.none_or, Option.some_or, reduceIte]) (by rw [hcl9, ← eN]; simp only [k_fore, if_neg c_10, if_pos c_35, if_neg s_0, reduceIte]) (by rw [hcl9, ← eN]; exact hP) hS dX1_foresee_111
        by_cases s_2 : v2 = 2
        · subst s_2
          refine lv_tableIn (off := 49) (tgt := 112) hx hb dX1_foresee_63 (by decide) (by decide) (by decide) (by decide) ?_
          refine lv_aload_n hx hb dX1_foresee_112 rfl (lv_at hl 0 rfl) ?_
          refine lv_aload_n hx hb dX1_foresee_113 rfl (lv_at hl 0 rfl) ?_
          refine va_get (D := D) (ci := 1) (v := .ref (a 2)) (C := RX1) (T := TX1) (N := 4) hx hb hts hiX1 hown hK hP 0 rfl rfl 1 (by decide) (hts (.fieldLink RX1 15 "CuckooShop" "copies" "[LCuckooShop$Clock;") (by decide +kernel)) (fun _ h9 => h9) rfl dX1_foresee_114 ?_
          refine lv_iconst (v := 5) hx hb dX1_foresee_117 (by decide) ?_
          have sp := cu_sp.all (W0 := (cu_cw C a (nI N) mn K (k_at N mn (k_cpy K P N) b))) (W1 := (cu_cw C a (nI N) mn K (k_at N mn (k_cpy K P N) b))) rfl
          refine cu_callI (va_runV (As := [.ref (a 2), .int 5]) (rest := []) ⟨hx, hb, hml, hown, hts⟩ ((m_X1_sumOfP l D C a N hN mn K (k_at N mn (k_cpy K P N) b) 5) H.size) (cwV 2 hts gX1_foresee_X1_sumOf rfl rfl rfl (by decide +kernel) ⟨Nat.le_of_ble_eq_true rfl, Nat.le_of_ble_eq_true rfl⟩) (cu_preV (ci := 1) sp hG hP hD rfl rfl) rfl rfl hl.1 rfl (lv_room (Nat.le_of_ble_eq_true rfl)) dX1_foresee_118 ⟨Nat.le_of_ble_eq_true rfl, Nat.le_of_ble_eq_true rfl⟩) sp hP hD hS hA (fun H locs hP hD hS => ?_)
          have hP : va_P D vwCl (cu_cw C a (nI N) mn K (k_at N mn (k_cpy K P N) b)) H := hP
          have hD : va_D A (cu_cw C a (nI N) mn K (k_at N mn (k_cpy K P N) b)) := hD
          refine W.widen (k := 2) (n := 12) (Nat.le_of_ble_eq_true rfl) (Nat.le_of_ble_eq_true rfl) ?_
          exact fin _ _ _ _ _ rfl (by simp only [k_oF, ho_1, if_neg c_10, if_pos c_35, if_neg s_0, if_neg s_1, Option.none_or, Option.some_or, reduceIte]) (by rw [hcl9, ← eN]; simp only [k_fore, if_neg c_10, if_pos c_35, if_neg s_0, if_neg s_1, reduceIte]) (by rw [hcl9, ← eN]; exact hP) hS dX1_foresee_121
        refine lv_tableOut (tgt := 122) hx hb dX1_foresee_63 (by have q_0 := cu_ne s_0 0 (by decide); have q_1 := cu_ne s_1 1 (by decide); have q_2 := cu_ne s_2 2 (by decide); omega) (by decide) ?_
        refine lv_aload_n hx hb dX1_foresee_122 rfl (lv_at hl 0 rfl) ?_
        refine lv_aload_n hx hb dX1_foresee_123 rfl (lv_at hl 0 rfl) ?_
        refine va_get (D := D) (ci := 1) (v := .ref (a 2)) (C := RX1) (T := TX1) (N := 4) hx hb hts hiX1 hown hK hP 0 rfl rfl 1 (by decide) (hts (.fieldLink RX1 15 "CuckooShop" "copies" "[LCuckooShop$Clock;") (by decide +kernel)) (fun _ h9 => h9) rfl dX1_foresee_124 ?_
        refine lv_aload_n hx hb dX1_foresee_127 rfl (lv_at hl 0 rfl) ?_
        refine va_get (D := D) (ci := 1) (v := .int mn) (C := RX1) (T := TX1) (N := 4) hx hb hts hiX1 hown hK hP 0 rfl rfl 3 (by decide) (hts (.fieldLink RX1 23 "CuckooShop" "minute" "I") (by decide +kernel)) (fun _ h9 => h9) rfl dX1_foresee_128 ?_
        refine lv_iload_n hx hb dX1_foresee_131 rfl (lv_at hl 1 rfl) ?_
        refine lv_iadd hx hb dX1_foresee_132 ?_
        have sp := cu_sp.all (W0 := (cu_cw C a (nI N) mn K (k_at N mn (k_cpy K P N) b))) (W1 := (cu_cw C a (nI N) mn K (k_at N mn (k_cpy K P N) b))) rfl
        refine cu_callI (va_runV (As := [.ref (a 2), .int (mn + nI t)]) (rest := []) ⟨hx, hb, hml, hown, hts⟩ ((m_X1_offOfAllP l D C a N hN mn K (k_at N mn (k_cpy K P N) b) (mn + nI t)) H.size) (cwV 2 hts gX1_foresee_X1_offOfAll rfl rfl rfl (by decide +kernel) ⟨Nat.le_of_ble_eq_true rfl, Nat.le_of_ble_eq_true rfl⟩) (cu_preV (ci := 1) sp hG hP hD rfl rfl) rfl rfl hl.1 rfl (lv_room (Nat.le_of_ble_eq_true rfl)) dX1_foresee_133 ⟨Nat.le_of_ble_eq_true rfl, Nat.le_of_ble_eq_true rfl⟩) sp hP hD hS hA (fun H locs hP hD hS => ?_)
        have hP : va_P D vwCl (cu_cw C a (nI N) mn K (k_at N mn (k_cpy K P N) b)) H := hP
        have hD : va_D A (cu_cw C a (nI N) mn K (k_at N mn (k_cpy K P N) b)) := hD
        refine W.widen (k := 2) (n := 12) (Nat.le_of_ble_eq_true rfl) (Nat.le_of_ble_eq_true rfl) ?_
        exact fin _ _ _ _ _ rfl (by simp only [k_oF, ho_1, if_neg c_10, if_pos c_35, if_neg s_0, if_neg s_1, if_neg s_2, Option.none_or, Option.some_or, reduceIte]) (by rw [hcl9, ← eN]; simp only [k_fore, if_neg c_10, if_pos c_35, if_neg s_0, if_neg s_1, if_neg s_2, reduceIte]) (by rw [hcl9, ← eN]; exact hP) hS dX1_foresee_136
      | succ j ih =>
        intro b hj H locs ls hP hD hS hl
        refine lv_iload hx hb dX1_foresee_32 (lv_at hl 4 rfl) ?_
        refine lv_iload_n hx hb dX1_foresee_34 rfl (lv_at hl 1 rfl) ?_
        refine lv_icmp_ge (tgt := 62) hx hb dX1_foresee_35 (by decide) (fun c_35 => absurd c_35 (nI_ge (b := t) (by omega) (by omega))) (fun c_35 => ?_)
        refine lv_iload_n hx hb dX1_foresee_38 rfl (lv_at hl 3 rfl) ?_
        refine lv_aload_n hx hb dX1_foresee_39 rfl (lv_at hl 0 rfl) ?_
        refine lv_aload_n hx hb dX1_foresee_40 rfl (lv_at hl 0 rfl) ?_
        refine va_get (D := D) (ci := 1) (v := .ref (a 2)) (C := RX1) (T := TX1) (N := 4) hx hb hts hiX1 hown hK hP 0 rfl rfl 1 (by decide) (hts (.fieldLink RX1 15 "CuckooShop" "copies" "[LCuckooShop$Clock;") (by decide +kernel)) (fun _ h9 => h9) rfl dX1_foresee_41 ?_
        refine lv_aload_n hx hb dX1_foresee_44 rfl (lv_at hl 0 rfl) ?_
        refine va_get (D := D) (ci := 1) (v := .int mn) (C := RX1) (T := TX1) (N := 4) hx hb hts hiX1 hown hK hP 0 rfl rfl 3 (by decide) (hts (.fieldLink RX1 23 "CuckooShop" "minute" "I") (by decide +kernel)) (fun _ h9 => h9) rfl dX1_foresee_45 ?_
        refine lv_iload hx hb dX1_foresee_48 (lv_at hl 4 rfl) ?_
        refine lv_iadd hx hb dX1_foresee_50 ?_
        have sp := cu_sp.all (W0 := (cu_cw C a (nI N) mn K (k_at N mn (k_cpy K P N) b))) (W1 := (cu_cw C a (nI N) mn K (k_upto (k_min (mn + nI b)) (k_at N mn (k_cpy K P N) b) N))) cu_cw_fst
        refine cu_callI (va_runV (As := [.ref (a 2), .int (mn + nI b)]) (rest := [.int (k_calls N mn (k_cpy K P N) b)]) ⟨hx, hb, hml, hown, hts⟩ ((m_X1_runRowP l D C a N hN mn K (k_at N mn (k_cpy K P N) b) (mn + nI b)) H.size) (cwV 2 hts gX1_foresee_X1_runRow rfl rfl rfl (by decide +kernel) ⟨Nat.le_of_ble_eq_true rfl, Nat.le_of_ble_eq_true rfl⟩) (cu_preV (ci := 1) sp hG hP hD rfl rfl) rfl rfl hl.1 rfl (lv_room (Nat.le_of_ble_eq_true rfl)) dX1_foresee_51 ⟨Nat.le_of_ble_eq_true rfl, Nat.le_of_ble_eq_true rfl⟩) sp hP hD hS hA (fun H locs hP hD hS => ?_)
        have hP : va_P D vwCl (cu_cw C a (nI N) mn K (k_upto (k_min (mn + nI b)) (k_at N mn (k_cpy K P N) b) N)) H := hP
        have hD : va_D A (cu_cw C a (nI N) mn K (k_upto (k_min (mn + nI b)) (k_at N mn (k_cpy K P N) b) N)) := hD
        have hP : va_P D vwCl (cu_cw C a (nI N) mn K (k_at N mn (k_cpy K P N) (b + 1))) H := hP
        have hD : va_D A (cu_cw C a (nI N) mn K (k_at N mn (k_cpy K P N) (b + 1))) := hD
        refine lv_iadd hx hb dX1_foresee_54 ?_
        refine lv_istore_n (lv' := [(3, .int ((k_calls N mn (k_cpy K P N) b) + (k_lat N (mn + nI b) (k_at N mn (k_cpy K P N) b)))), (0, .ref (a 0)), (1, .int (nI t)), (2, .int v2), (4, .int (nI b))]) hx hb dX1_foresee_55 rfl hl (by decide) rfl (fun ls hl => ?_)
        refine lv_iinc (v := (nI (b + 1))) (lv' := [(4, .int (nI (b + 1))), (3, .int ((k_calls N mn (k_cpy K P N) b) + (k_lat N (mn + nI b) (k_at N mn (k_cpy K P N) b)))), (0, .ref (a 0)), (1, .int (nI t)), (2, .int v2)]) hx hb dX1_foresee_56 hl (k := 4) rfl (nI_1 b) (by decide) rfl (fun ls hl => ?_)
        refine lv_goto (tgt := 32) hx hb dX1_foresee_59 (by decide) ?_
        exact ih (b + 1) (by omega) _ _ _ hP hD hS (lv_sub hl [2, 3, 4, 1, 0] rfl)
    exact loop t 0 (by omega) _ _ _ hP hD hS (lv_sub hl [2, 3, 4, 1, 0] rfl)
  · exact thr x_IOB "what is foreseen is 0 to 3" 86 123 90 _ _ 13 _ _ _ _ cu_th_IOB (hts (.classLink RX1 86 x_IOB) (by decide +kernel)) (hts (.initialized x_IOB) (by decide +kernel)) (by decide +kernel) (by decide +kernel) hS hl.1 dX1_foresee_13 dX1_foresee_16 dX1_foresee_17 dX1_foresee_19 dX1_foresee_22 (Nat.le_of_ble_eq_true rfl) (Nat.le_of_ble_eq_true rfl) (Nat.le_of_ble_eq_true rfl) (Nat.le_of_ble_eq_true rfl) (Nat.le_of_ble_eq_true rfl) (Nat.le_of_ble_eq_true rfl) (by simp only [k_oF, ho_1, if_pos c_10, Option.none_or, Option.some_or, reduceIte]) hP
end
